set_option maxHeartbeats 4000000 in
set_option maxRecDepth 100000 in
theorem mX10_rank_L5 (l : Launch) (G : jG) (z : Nat) (z4 : Nat) (z5 : Nat) (z6 : Nat) (z9 : Nat) (z10 : Nat) (z11 : Nat) (z12 : Nat) (z14 : Nat) (z15 : Nat) (z16 : Nat) (z19 : Nat) (z20 : Nat) (z21 : Nat) (z22 : Nat) (z23 : Nat) (z25 : Nat) (z26 : Nat) (z27 : Nat) (z28 : Nat) (z30 : Nat) (z31 : Nat) (z32 : Nat) (st : Nat) (th : Nat) (za : Int64) (zb : Int64) (el : Nat) (be : Nat) (gz : Bool) (mm : Nat) (tt : Nat) (gm : Nat) (rn : Nat) (le : Nat → Nat) (lb : Nat → Nat) (br : Nat → Bool) (b : Nat) (e : Nat) (hel : el ≤ 12) (hle : ∀ k, le k ≤ 100) (hlb : ∀ k, lb k ≤ 100) (hb : b < 16) (he : e < 12) (κ : jK) (X : CX κ l yX10_rank cX10_rank 5 RX10 wsX10_rank (some .int) ({ frames := 1, cells := 0, slots := 0, locals := 25 }) G (va_A [(z, .inr (10, [.int (nI st), .int (nI th), .long za, .long zb, .ref z4, .ref z5, .ref z6, .int (nI el), .int (nI be), .ref z9, .ref z10, .ref z11, .ref z12, .int (b2i gz), .ref z14, .ref z15, .ref z16, .int (nI mm), .int (nI tt), .ref z19, .ref z20, .ref z21, .ref z22, .ref z23, .int (nI gm), .ref z25, .ref z26, .ref z27, .ref z28, .int (nI rn), .ref z30, .ref z31, .ref z32])), kI G z10 192 (nF le), kI G z11 192 (nF lb), kZ G z12 192 (bF br)] (js κ).heap.size))    : ∀ (fu : Nat) (k : Nat) (hk : k ≤ el) (_ : el - k < fu), JJ κ 5 G (va_A [(z, .inr (10, [.int (nI st), .int (nI th), .long za, .long zb, .ref z4, .ref z5, .ref z6, .int (nI el), .int (nI be), .ref z9, .ref z10, .ref z11, .ref z12, .int (b2i gz), .ref z14, .ref z15, .ref z16, .int (nI mm), .int (nI tt), .ref z19, .ref z20, .ref z21, .ref z22, .ref z23, .int (nI gm), .ref z25, .ref z26, .ref z27, .ref z28, .int (nI rn), .ref z30, .ref z31, .ref z32])), kI G z10 192 (nF le), kI G z11 192 (nF lb), kZ G z12 192 (bF br)] (js κ).heap.size) 0 0 (jQ κ G [(z, .inr (10, [.int (nI st), .int (nI th), .long za, .long zb, .ref z4, .ref z5, .ref z6, .int (nI el), .int (nI be), .ref z9, .ref z10, .ref z11, .ref z12, .int (b2i gz), .ref z14, .ref z15, .ref z16, .int (nI mm), .int (nI tt), .ref z19, .ref z20, .ref z21, .ref z22, .ref z23, .int (nI gm), .ref z25, .ref z26, .ref z27, .ref z28, .int (nI rn), .ref z30, .ref z31, .ref z32])), kI G z10 192 (nF le), kI G z11 192 (nF lb), kZ G z12 192 (bF br)] (fun r w' => r = some (.int (nI (rnk le lb br b e el))) ∧ w' = [(z, .inr (10, [.int (nI st), .int (nI th), .long za, .long zb, .ref z4, .ref z5, .ref z6, .int (nI el), .int (nI be), .ref z9, .ref z10, .ref z11, .ref z12, .int (b2i gz), .ref z14, .ref z15, .ref z16, .int (nI mm), .int (nI tt), .ref z19, .ref z20, .ref z21, .ref z22, .ref z23, .int (nI gm), .ref z25, .ref z26, .ref z27, .ref z28, .int (nI rn), .ref z30, .ref z31, .ref z32])), kI G z10 192 (nF le), kI G z11 192 (nF lb), kZ G z12 192 (bF br)]) 0 0) 5 [(0, .ref z), (1, .int (nI b)), (2, .int (nI e)), (3, .int (nI (rnk le lb br b e k))), (4, .int (nI k))] [] [(z, .inr (10, [.int (nI st), .int (nI th), .long za, .long zb, .ref z4, .ref z5, .ref z6, .int (nI el), .int (nI be), .ref z9, .ref z10, .ref z11, .ref z12, .int (b2i gz), .ref z14, .ref z15, .ref z16, .int (nI mm), .int (nI tt), .ref z19, .ref z20, .ref z21, .ref z22, .ref z23, .int (nI gm), .ref z25, .ref z26, .ref z27, .ref z28, .int (nI rn), .ref z30, .ref z31, .ref z32])), kI G z10 192 (nF le), kI G z11 192 (nF lb), kZ G z12 192 (bF br)] := by
  have i_X10 : ∀ w ∈ wsX100, w ∈ wsX10_rank := by decide +kernel
  intro fu
  induction fu with
  | zero => intro k hk hms; exact absurd hms (Nat.not_lt_zero _)
  | succ fu ih =>
    intro k hk hms
    refine j_iload (pc := 5) X dX10_rank_5 4 rfl ?_
    refine j_aload_n (pc := 7) X dX10_rank_7 rfl 0 rfl ?_
    refine j_get (pc := 8) X 10 i_X10 0 rfl rfl 7 (by decide) (by decide +kernel) rfl dX10_rank_8 ?_
    refine j_icmpN_ge (pc := 11) X (a := k) (b := el) (by omega) (by omega) (tgt := 55) dX10_rank_11 (by decide) (fun c_11 => ?_) (fun c_11 => ?_)
    · skip
      refine j_iload_n (pc := 55) X dX10_rank_55 rfl 3 rfl ?_
      exact j_iret (pc := 56) X dX10_rank_56 ⟨by rw [show k = el by omega], rfl⟩
    · skip
      refine j_iload_n (pc := 14) X dX10_rank_14 rfl 3 rfl ?_
      refine j_iload (pc := 15) X dX10_rank_15 4 rfl ?_
      refine j_iload_n (pc := 17) X dX10_rank_17 rfl 2 rfl ?_
      refine j_icmpN_eq (pc := 18) X (a := k) (b := e) (by omega) (by omega) (tgt := 46) dX10_rank_18 (by decide) (fun c_18 => ?_) (fun c_18 => ?_)
      · skip
        refine j_iconst (pc := 46) X (v := nI 0) dX10_rank_46 (by decide) ?_
        refine j_iadd (pc := 47) X dX10_rank_47 ?_
        refine j_topi (z := nI (rnk le lb br b e k + 0)) (nI_add _ _) ?_
        refine j_istore_n (pc := 48) X (lv' := [(3, .int (nI (rnk le lb br b e k + 0))), (0, .ref z), (1, .int (nI b)), (2, .int (nI e)), (4, .int (nI k))]) dX10_rank_48 rfl (by decide) rfl ?_
        refine j_iinc (pc := 49) X (v := nI (k + 1)) (lv' := [(4, .int (nI (k + 1))), (3, .int (nI (rnk le lb br b e k + 0))), (0, .ref z), (1, .int (nI b)), (2, .int (nI e))]) dX10_rank_49 4 rfl (nI_1 _) (by decide) rfl ?_
        refine j_goto (pc := 52) X (tgt := 5) dX10_rank_52 (by decide) ?_
        refine j_lv [2, 3, 4, 1, 0] (lv' := [(0, .ref z), (1, .int (nI b)), (2, .int (nI e)), (3, .int (nI (rnk le lb br b e k + 0))), (4, .int (nI (k + 1)))]) rfl ?_
        refine j_lvq (lv' := [(0, .ref z), (1, .int (nI b)), (2, .int (nI e)), (3, .int (nI (rnk le lb br b e (k + 1)))), (4, .int (nI (k + 1)))]) ?_ ?_
        · rw [show (rnk le lb br b e k + 0) = rnk le lb br b e (k + 1) from by (simp only [rnk]; simp [c_11, c_18])]
        exact ih (k + 1) (by omega) (by omega)
      · skip
        refine j_aload_n (pc := 21) X dX10_rank_21 rfl 0 rfl ?_
        refine j_iload (pc := 22) X dX10_rank_22 4 rfl ?_
        refine j_iload_n (pc := 24) X dX10_rank_24 rfl 1 rfl ?_
        refine j_ciP (pc := 25) X [0, 1, 2, 3] rfl (j_rV X (b := z) (As := [.int (nI k), .int (nI b)]) (ci := 10) (rest := [.int (nI (rnk le lb br b e k))]) 2 (mX10_can l G z z4 z5 z6 z9 z10 z11 z12 z14 z15 z16 z19 z20 z21 z22 z23 z25 z26 z27 z28 z30 z31 z32 st th za zb el be gz mm tt gm rn le lb br k b (by first | assumption | omega | exact ob_s (by omega) | exact ob_n) (by first | assumption | omega | exact ob_s (by omega) | exact ob_n) (by first | assumption | omega | exact ob_s (by omega) | exact ob_n) (by first | assumption | omega | exact ob_s (by omega) | exact ob_n)) gX10_rank_X10_can rfl rfl rfl (by decide +kernel) ⟨Nat.le_of_ble_eq_true rfl, Nat.le_of_ble_eq_true rfl⟩ rfl rfl 0 rfl [0, 1, 2, 3] rfl rfl rfl (Nat.le_of_ble_eq_true rfl) dX10_rank_25 ⟨Nat.le_of_ble_eq_true rfl, Nat.le_of_ble_eq_true rfl⟩) ?_
        refine j_ifb_eq (pc := 28) X (B := canB le lb br k b) (tgt := 46) dX10_rank_28 (by decide) (fun c_28 => ?_) (fun c_28 => ?_)
        · skip
          refine j_iconst (pc := 46) X (v := nI 0) dX10_rank_46 (by decide) ?_
          refine j_iadd (pc := 47) X dX10_rank_47 ?_
          refine j_topi (z := nI (rnk le lb br b e k + 0)) (nI_add _ _) ?_
          refine j_istore_n (pc := 48) X (lv' := [(3, .int (nI (rnk le lb br b e k + 0))), (0, .ref z), (1, .int (nI b)), (2, .int (nI e)), (4, .int (nI k))]) dX10_rank_48 rfl (by decide) rfl ?_
          refine j_iinc (pc := 49) X (v := nI (k + 1)) (lv' := [(4, .int (nI (k + 1))), (3, .int (nI (rnk le lb br b e k + 0))), (0, .ref z), (1, .int (nI b)), (2, .int (nI e))]) dX10_rank_49 4 rfl (nI_1 _) (by decide) rfl ?_
          refine j_goto (pc := 52) X (tgt := 5) dX10_rank_52 (by decide) ?_
          refine j_lv [2, 3, 4, 1, 0] (lv' := [(0, .ref z), (1, .int (nI b)), (2, .int (nI e)), (3, .int (nI (rnk le lb br b e k + 0))), (4, .int (nI (k + 1)))]) rfl ?_
          refine j_lvq (lv' := [(0, .ref z), (1, .int (nI b)), (2, .int (nI e)), (3, .int (nI (rnk le lb br b e (k + 1)))), (4, .int (nI (k + 1)))]) ?_ ?_
          · rw [show (rnk le lb br b e k + 0) = rnk le lb br b e (k + 1) from by (simp only [rnk]; simp [c_11, c_18, c_28])]
          exact ih (k + 1) (by omega) (by omega)
        · skip
          refine j_aload_n (pc := 31) X dX10_rank_31 rfl 0 rfl ?_
          refine j_iload_n (pc := 32) X dX10_rank_32 rfl 1 rfl ?_
          refine j_iload (pc := 33) X dX10_rank_33 4 rfl ?_
          refine j_iload_n (pc := 35) X dX10_rank_35 rfl 2 rfl ?_
          refine j_ciP (pc := 36) X [0, 2] rfl (j_rV X (b := z) (As := [.int (nI b), .int (nI k), .int (nI e)]) (ci := 10) (rest := [.int (nI (rnk le lb br b e k))]) 3 (mX10_beginnerPrefers l G z z4 z5 z6 z9 z10 z11 z12 z14 z15 z16 z19 z20 z21 z22 z23 z25 z26 z27 z28 z30 z31 z32 st th za zb el be gz mm tt gm rn lb b k (some e) (by first | assumption | omega | exact ob_s (by omega) | exact ob_n) (by first | assumption | omega | exact ob_s (by omega) | exact ob_n) (by first | assumption | omega | exact ob_s (by omega) | exact ob_n) (by first | assumption | omega | exact ob_s (by omega) | exact ob_n)) gX10_rank_X10_beginnerPrefers rfl rfl rfl (by decide +kernel) ⟨Nat.le_of_ble_eq_true rfl, Nat.le_of_ble_eq_true rfl⟩ rfl rfl 0 rfl [0, 2] rfl rfl rfl (Nat.le_of_ble_eq_true rfl) dX10_rank_36 ⟨Nat.le_of_ble_eq_true rfl, Nat.le_of_ble_eq_true rfl⟩) ?_
          refine j_ifb_eq (pc := 39) X (B := prBO lb b k (some e)) (tgt := 46) dX10_rank_39 (by decide) (fun c_39 => ?_) (fun c_39 => ?_)
          · skip
            refine j_iconst (pc := 46) X (v := nI 0) dX10_rank_46 (by decide) ?_
            refine j_iadd (pc := 47) X dX10_rank_47 ?_
            refine j_topi (z := nI (rnk le lb br b e k + 0)) (nI_add _ _) ?_
            refine j_istore_n (pc := 48) X (lv' := [(3, .int (nI (rnk le lb br b e k + 0))), (0, .ref z), (1, .int (nI b)), (2, .int (nI e)), (4, .int (nI k))]) dX10_rank_48 rfl (by decide) rfl ?_
            refine j_iinc (pc := 49) X (v := nI (k + 1)) (lv' := [(4, .int (nI (k + 1))), (3, .int (nI (rnk le lb br b e k + 0))), (0, .ref z), (1, .int (nI b)), (2, .int (nI e))]) dX10_rank_49 4 rfl (nI_1 _) (by decide) rfl ?_
            refine j_goto (pc := 52) X (tgt := 5) dX10_rank_52 (by decide) ?_
            refine j_lv [2, 3, 4, 1, 0] (lv' := [(0, .ref z), (1, .int (nI b)), (2, .int (nI e)), (3, .int (nI (rnk le lb br b e k + 0))), (4, .int (nI (k + 1)))]) rfl ?_
            refine j_lvq (lv' := [(0, .ref z), (1, .int (nI b)), (2, .int (nI e)), (3, .int (nI (rnk le lb br b e (k + 1)))), (4, .int (nI (k + 1)))]) ?_ ?_
            · rw [show (rnk le lb br b e k + 0) = rnk le lb br b e (k + 1) from by (simp only [rnk]; simp [c_11, c_18, c_28, c_39])]
            exact ih (k + 1) (by omega) (by omega)
          · skip
            refine j_iconst (pc := 42) X (v := nI 1) dX10_rank_42 (by decide) ?_
            refine j_goto (pc := 43) X (tgt := 47) dX10_rank_43 (by decide) ?_
            refine j_iadd (pc := 47) X dX10_rank_47 ?_
            refine j_topi (z := nI (rnk le lb br b e k + 1)) (nI_add _ _) ?_
            refine j_istore_n (pc := 48) X (lv' := [(3, .int (nI (rnk le lb br b e k + 1))), (0, .ref z), (1, .int (nI b)), (2, .int (nI e)), (4, .int (nI k))]) dX10_rank_48 rfl (by decide) rfl ?_
            refine j_iinc (pc := 49) X (v := nI (k + 1)) (lv' := [(4, .int (nI (k + 1))), (3, .int (nI (rnk le lb br b e k + 1))), (0, .ref z), (1, .int (nI b)), (2, .int (nI e))]) dX10_rank_49 4 rfl (nI_1 _) (by decide) rfl ?_
            refine j_goto (pc := 52) X (tgt := 5) dX10_rank_52 (by decide) ?_
            refine j_lv [2, 3, 4, 1, 0] (lv' := [(0, .ref z), (1, .int (nI b)), (2, .int (nI e)), (3, .int (nI (rnk le lb br b e k + 1))), (4, .int (nI (k + 1)))]) rfl ?_
            refine j_lvq (lv' := [(0, .ref z), (1, .int (nI b)), (2, .int (nI e)), (3, .int (nI (rnk le lb br b e (k + 1)))), (4, .int (nI (k + 1)))]) ?_ ?_
            · rw [show (rnk le lb br b e k + 1) = rnk le lb br b e (k + 1) from by (simp only [rnk]; simp [c_11, c_18, c_28, c_39])]
            exact ih (k + 1) (by omega) (by omega)
set_option maxHeartbeats 4000000 in
set_option maxRecDepth 100000 in
theorem mX10_rank (l : Launch) (G : jG) (z : Nat) (z4 : Nat) (z5 : Nat) (z6 : Nat) (z9 : Nat) (z10 : Nat) (z11 : Nat) (z12 : Nat) (z14 : Nat) (z15 : Nat) (z16 : Nat) (z19 : Nat) (z20 : Nat) (z21 : Nat) (z22 : Nat) (z23 : Nat) (z25 : Nat) (z26 : Nat) (z27 : Nat) (z28 : Nat) (z30 : Nat) (z31 : Nat) (z32 : Nat) (st : Nat) (th : Nat) (za : Int64) (zb : Int64) (el : Nat) (be : Nat) (gz : Bool) (mm : Nat) (tt : Nat) (gm : Nat) (rn : Nat) (le : Nat → Nat) (lb : Nat → Nat) (br : Nat → Bool) (b : Nat) (e : Nat) (hel : el ≤ 12) (hle : ∀ k, le k ≤ 100) (hlb : ∀ k, lb k ≤ 100) (hb : b < 16) (he : e < 12) : MV l yX10_rank wsX10_rank ({ frames := 1, cells := 0, slots := 0, locals := 25 }) G [.ref z, .int (nI b), .int (nI e)] [(z, .inr (10, [.int (nI st), .int (nI th), .long za, .long zb, .ref z4, .ref z5, .ref z6, .int (nI el), .int (nI be), .ref z9, .ref z10, .ref z11, .ref z12, .int (b2i gz), .ref z14, .ref z15, .ref z16, .int (nI mm), .int (nI tt), .ref z19, .ref z20, .ref z21, .ref z22, .ref z23, .int (nI gm), .ref z25, .ref z26, .ref z27, .ref z28, .int (nI rn), .ref z30, .ref z31, .ref z32])), kI G z10 192 (nF le), kI G z11 192 (nF lb), kZ G z12 192 (bF br)] (some (.int (nI (rnk le lb br b e el)))) [(z, .inr (10, [.int (nI st), .int (nI th), .long za, .long zb, .ref z4, .ref z5, .ref z6, .int (nI el), .int (nI be), .ref z9, .ref z10, .ref z11, .ref z12, .int (b2i gz), .ref z14, .ref z15, .ref z16, .int (nI mm), .int (nI tt), .ref z19, .ref z20, .ref z21, .ref z22, .ref z23, .int (nI gm), .ref z25, .ref z26, .ref z27, .ref z28, .int (nI rn), .ref z30, .ref z31, .ref z32])), kI G z10 192 (nF le), kI G z11 192 (nF lb), kZ G z12 192 (bF br)] := by
  refine MF.ofJ (cc := cX10_rank) (maxL := 5) (ret := (some .int)) (own := RX10) (lv := [(0, .ref z), (1, .int (nI b)), (2, .int (nI e))]) (by decide) rfl rfl (Nat.le_of_ble_eq_true rfl) rfl ?_
  intro κ X
  have i_X10 : ∀ w ∈ wsX100, w ∈ wsX10_rank := by decide +kernel
  refine j_iconst (pc := 0) X (v := nI 0) dX10_rank_0 (by decide) ?_
  refine j_istore_n (pc := 1) X (lv' := [(3, .int (nI 0)), (0, .ref z), (1, .int (nI b)), (2, .int (nI e))]) dX10_rank_1 rfl (by decide) rfl ?_
  refine j_iconst (pc := 2) X (v := nI 0) dX10_rank_2 (by decide) ?_
  refine j_istore (pc := 3) X (lv' := [(4, .int (nI 0)), (3, .int (nI 0)), (0, .ref z), (1, .int (nI b)), (2, .int (nI e))]) dX10_rank_3 (by decide) rfl ?_
  refine j_lv [2, 3, 4, 1, 0] (lv' := [(0, .ref z), (1, .int (nI b)), (2, .int (nI e)), (3, .int (nI 0)), (4, .int (nI 0))]) rfl ?_
  refine j_lvq (lv' := [(0, .ref z), (1, .int (nI b)), (2, .int (nI e)), (3, .int (nI (rnk le lb br b e 0))), (4, .int (nI 0))]) ?_ ?_
  · first | rfl | (rw [show (0) = rnk le lb br b e 0 from by (simp only [rnk]; simp [ne_eq])])
  exact mX10_rank_L5 l G z z4 z5 z6 z9 z10 z11 z12 z14 z15 z16 z19 z20 z21 z22 z23 z25 z26 z27 z28 z30 z31 z32 st th za zb el be gz mm tt gm rn le lb br b e hel hle hlb hb he κ X    (el - 0 + 1) 0 (by omega) (Nat.lt_succ_self _)

set_option maxHeartbeats 4000000 in
set_option maxRecDepth 100000 in
theorem mX10_asked_L2 (l : Launch) (G : jG) (z : Nat) (z4 : Nat) (z5 : Nat) (z6 : Nat) (z9 : Nat) (z10 : Nat) (z11 : Nat) (z12 : Nat) (z14 : Nat) (z15 : Nat) (z16 : Nat) (z19 : Nat) (z20 : Nat) (z21 : Nat) (z22 : Nat) (z23 : Nat) (z25 : Nat) (z26 : Nat) (z27 : Nat) (z28 : Nat) (z30 : Nat) (z31 : Nat) (z32 : Nat) (st : Nat) (th : Nat) (za : Int64) (zb : Int64) (el : Nat) (be : Nat) (gz : Bool) (mm : Nat) (tt : Nat) (gm : Nat) (rn : Nat) (le : Nat → Nat) (lb : Nat → Nat) (br : Nat → Bool) (b : Nat) (n : Nat) (hel : el ≤ 12) (hle : ∀ k, le k ≤ 100) (hlb : ∀ k, lb k ≤ 100) (hb : b < 16) (hn : n ≤ 12) (κ : jK) (X : CX κ l yX10_asked cX10_asked 4 RX10 wsX10_asked (some .int) ({ frames := 2, cells := 0, slots := 0, locals := 49 }) G (va_A [(z, .inr (10, [.int (nI st), .int (nI th), .long za, .long zb, .ref z4, .ref z5, .ref z6, .int (nI el), .int (nI be), .ref z9, .ref z10, .ref z11, .ref z12, .int (b2i gz), .ref z14, .ref z15, .ref z16, .int (nI mm), .int (nI tt), .ref z19, .ref z20, .ref z21, .ref z22, .ref z23, .int (nI gm), .ref z25, .ref z26, .ref z27, .ref z28, .int (nI rn), .ref z30, .ref z31, .ref z32])), kI G z10 192 (nF le), kI G z11 192 (nF lb), kZ G z12 192 (bF br)] (js κ).heap.size))    : ∀ (fu : Nat) (e : Nat) (he : e ≤ el) (hff : ffn (fun e => canB le lb br e b && decide (rnk le lb br b e el = n)) e = none) (_ : el - e < fu), JJ κ 4 G (va_A [(z, .inr (10, [.int (nI st), .int (nI th), .long za, .long zb, .ref z4, .ref z5, .ref z6, .int (nI el), .int (nI be), .ref z9, .ref z10, .ref z11, .ref z12, .int (b2i gz), .ref z14, .ref z15, .ref z16, .int (nI mm), .int (nI tt), .ref z19, .ref z20, .ref z21, .ref z22, .ref z23, .int (nI gm), .ref z25, .ref z26, .ref z27, .ref z28, .int (nI rn), .ref z30, .ref z31, .ref z32])), kI G z10 192 (nF le), kI G z11 192 (nF lb), kZ G z12 192 (bF br)] (js κ).heap.size) 0 0 (jQ κ G [(z, .inr (10, [.int (nI st), .int (nI th), .long za, .long zb, .ref z4, .ref z5, .ref z6, .int (nI el), .int (nI be), .ref z9, .ref z10, .ref z11, .ref z12, .int (b2i gz), .ref z14, .ref z15, .ref z16, .int (nI mm), .int (nI tt), .ref z19, .ref z20, .ref z21, .ref z22, .ref z23, .int (nI gm), .ref z25, .ref z26, .ref z27, .ref z28, .int (nI rn), .ref z30, .ref z31, .ref z32])), kI G z10 192 (nF le), kI G z11 192 (nF lb), kZ G z12 192 (bF br)] (fun r w' => r = some (.int (oI (askd le lb br el b n))) ∧ w' = [(z, .inr (10, [.int (nI st), .int (nI th), .long za, .long zb, .ref z4, .ref z5, .ref z6, .int (nI el), .int (nI be), .ref z9, .ref z10, .ref z11, .ref z12, .int (b2i gz), .ref z14, .ref z15, .ref z16, .int (nI mm), .int (nI tt), .ref z19, .ref z20, .ref z21, .ref z22, .ref z23, .int (nI gm), .ref z25, .ref z26, .ref z27, .ref z28, .int (nI rn), .ref z30, .ref z31, .ref z32])), kI G z10 192 (nF le), kI G z11 192 (nF lb), kZ G z12 192 (bF br)]) 0 0) 2 [(0, .ref z), (1, .int (nI b)), (2, .int (nI n)), (3, .int (nI e))] [] [(z, .inr (10, [.int (nI st), .int (nI th), .long za, .long zb, .ref z4, .ref z5, .ref z6, .int (nI el), .int (nI be), .ref z9, .ref z10, .ref z11, .ref z12, .int (b2i gz), .ref z14, .ref z15, .ref z16, .int (nI mm), .int (nI tt), .ref z19, .ref z20, .ref z21, .ref z22, .ref z23, .int (nI gm), .ref z25, .ref z26, .ref z27, .ref z28, .int (nI rn), .ref z30, .ref z31, .ref z32])), kI G z10 192 (nF le), kI G z11 192 (nF lb), kZ G z12 192 (bF br)] := by
  have i_X10 : ∀ w ∈ wsX100, w ∈ wsX10_asked := by decide +kernel
  intro fu
  induction fu with
  | zero => intro e he hff hms; exact absurd hms (Nat.not_lt_zero _)
  | succ fu ih =>
    intro e he hff hms
    refine j_iload_n (pc := 2) X dX10_asked_2 rfl 3 rfl ?_
    refine j_aload_n (pc := 3) X dX10_asked_3 rfl 0 rfl ?_
    refine j_get (pc := 4) X 10 i_X10 0 rfl rfl 7 (by decide) (by decide +kernel) rfl dX10_asked_4 ?_
    refine j_icmpN_ge (pc := 7) X (a := e) (b := el) (by first | omega | (have h9 := rnk_le le lb br b e el; omega)) (by first | omega | (have h9 := rnk_le le lb br b e el; omega)) (tgt := 37) dX10_asked_7 (by decide) (fun c_7 => ?_) (fun c_7 => ?_)
    · skip
      refine j_iconst (pc := 37) X (v := oI none) dX10_asked_37 (by decide) ?_
      exact j_iret (pc := 38) X dX10_asked_38 ⟨by have h9 : el = e := (by omega); subst h9; rw [askd, hff], rfl⟩
    · skip
      refine j_aload_n (pc := 10) X dX10_asked_10 rfl 0 rfl ?_
      refine j_iload_n (pc := 11) X dX10_asked_11 rfl 3 rfl ?_
      refine j_iload_n (pc := 12) X dX10_asked_12 rfl 1 rfl ?_
      refine j_ciP (pc := 13) X [0, 1, 2, 3] rfl (j_rV X (b := z) (As := [.int (nI e), .int (nI b)]) (ci := 10) (rest := []) 2 (mX10_can l G z z4 z5 z6 z9 z10 z11 z12 z14 z15 z16 z19 z20 z21 z22 z23 z25 z26 z27 z28 z30 z31 z32 st th za zb el be gz mm tt gm rn le lb br e b (by first | assumption | omega | exact ob_s (by omega) | exact ob_n) (by first | assumption | omega | exact ob_s (by omega) | exact ob_n) (by first | assumption | omega | exact ob_s (by omega) | exact ob_n) (by first | assumption | omega | exact ob_s (by omega) | exact ob_n)) gX10_asked_X10_can rfl rfl rfl (by decide +kernel) ⟨Nat.le_of_ble_eq_true rfl, Nat.le_of_ble_eq_true rfl⟩ rfl rfl 0 rfl [0, 1, 2, 3] rfl rfl rfl (Nat.le_of_ble_eq_true rfl) dX10_asked_13 ⟨Nat.le_of_ble_eq_true rfl, Nat.le_of_ble_eq_true rfl⟩) ?_
      refine j_ifb_eq (pc := 16) X (B := canB le lb br e b) (tgt := 31) dX10_asked_16 (by decide) (fun c_16 => ?_) (fun c_16 => ?_)
      · skip
        refine j_iinc (pc := 31) X (v := nI (e + 1)) (lv' := [(3, .int (nI (e + 1))), (0, .ref z), (1, .int (nI b)), (2, .int (nI n))]) dX10_asked_31 3 rfl (nI_1 _) (by decide) rfl ?_
        refine j_goto (pc := 34) X (tgt := 2) dX10_asked_34 (by decide) ?_
        refine j_lv [1, 2, 3, 0] (lv' := [(0, .ref z), (1, .int (nI b)), (2, .int (nI n)), (3, .int (nI (e + 1)))]) rfl ?_
        exact ih (e + 1) (by omega) (by simp [ffn, hff, c_7, c_16]) (by omega)
      · skip
        refine j_aload_n (pc := 19) X dX10_asked_19 rfl 0 rfl ?_
        refine j_iload_n (pc := 20) X dX10_asked_20 rfl 1 rfl ?_
        refine j_iload_n (pc := 21) X dX10_asked_21 rfl 3 rfl ?_
        refine j_ciP (pc := 22) X [0, 1, 2, 3] rfl (j_rV X (b := z) (As := [.int (nI b), .int (nI e)]) (ci := 10) (rest := []) 2 (mX10_rank l G z z4 z5 z6 z9 z10 z11 z12 z14 z15 z16 z19 z20 z21 z22 z23 z25 z26 z27 z28 z30 z31 z32 st th za zb el be gz mm tt gm rn le lb br b e (by first | assumption | omega | exact ob_s (by omega) | exact ob_n) (by first | assumption | omega | exact ob_s (by omega) | exact ob_n) (by first | assumption | omega | exact ob_s (by omega) | exact ob_n) (by first | assumption | omega | exact ob_s (by omega) | exact ob_n) (by first | assumption | omega | exact ob_s (by omega) | exact ob_n)) gX10_asked_X10_rank rfl rfl rfl (by decide +kernel) ⟨Nat.le_of_ble_eq_true rfl, Nat.le_of_ble_eq_true rfl⟩ rfl rfl 0 rfl [0, 1, 2, 3] rfl rfl rfl (Nat.le_of_ble_eq_true rfl) dX10_asked_22 ⟨Nat.le_of_ble_eq_true rfl, Nat.le_of_ble_eq_true rfl⟩) ?_
        refine j_iload_n (pc := 25) X dX10_asked_25 rfl 2 rfl ?_
        refine j_icmpN_ne (pc := 26) X (a := (rnk le lb br b e el)) (b := n) (by first | omega | (have h9 := rnk_le le lb br b e el; omega)) (by first | omega | (have h9 := rnk_le le lb br b e el; omega)) (tgt := 31) dX10_asked_26 (by decide) (fun c_26 => ?_) (fun c_26 => ?_)
        · skip
          refine j_iinc (pc := 31) X (v := nI (e + 1)) (lv' := [(3, .int (nI (e + 1))), (0, .ref z), (1, .int (nI b)), (2, .int (nI n))]) dX10_asked_31 3 rfl (nI_1 _) (by decide) rfl ?_
          refine j_goto (pc := 34) X (tgt := 2) dX10_asked_34 (by decide) ?_
          refine j_lv [1, 2, 3, 0] (lv' := [(0, .ref z), (1, .int (nI b)), (2, .int (nI n)), (3, .int (nI (e + 1)))]) rfl ?_
          exact ih (e + 1) (by omega) (by simp [ffn, hff, c_7, c_16, c_26]) (by omega)
        · skip
          refine j_iload_n (pc := 29) X dX10_asked_29 rfl 3 rfl ?_
          exact j_iret (pc := 30) X dX10_asked_30 ⟨by (show some (Value.int (oI (some e))) = _; rw [askd, ffn_at hff (by simp [c_7, c_16, c_26]) el (by omega)]), rfl⟩
set_option maxHeartbeats 4000000 in
set_option maxRecDepth 100000 in
theorem mX10_asked (l : Launch) (G : jG) (z : Nat) (z4 : Nat) (z5 : Nat) (z6 : Nat) (z9 : Nat) (z10 : Nat) (z11 : Nat) (z12 : Nat) (z14 : Nat) (z15 : Nat) (z16 : Nat) (z19 : Nat) (z20 : Nat) (z21 : Nat) (z22 : Nat) (z23 : Nat) (z25 : Nat) (z26 : Nat) (z27 : Nat) (z28 : Nat) (z30 : Nat) (z31 : Nat) (z32 : Nat) (st : Nat) (th : Nat) (za : Int64) (zb : Int64) (el : Nat) (be : Nat) (gz : Bool) (mm : Nat) (tt : Nat) (gm : Nat) (rn : Nat) (le : Nat → Nat) (lb : Nat → Nat) (br : Nat → Bool) (b : Nat) (n : Nat) (hel : el ≤ 12) (hle : ∀ k, le k ≤ 100) (hlb : ∀ k, lb k ≤ 100) (hb : b < 16) (hn : n ≤ 12) : MV l yX10_asked wsX10_asked ({ frames := 2, cells := 0, slots := 0, locals := 49 }) G [.ref z, .int (nI b), .int (nI n)] [(z, .inr (10, [.int (nI st), .int (nI th), .long za, .long zb, .ref z4, .ref z5, .ref z6, .int (nI el), .int (nI be), .ref z9, .ref z10, .ref z11, .ref z12, .int (b2i gz), .ref z14, .ref z15, .ref z16, .int (nI mm), .int (nI tt), .ref z19, .ref z20, .ref z21, .ref z22, .ref z23, .int (nI gm), .ref z25, .ref z26, .ref z27, .ref z28, .int (nI rn), .ref z30, .ref z31, .ref z32])), kI G z10 192 (nF le), kI G z11 192 (nF lb), kZ G z12 192 (bF br)] (some (.int (oI (askd le lb br el b n)))) [(z, .inr (10, [.int (nI st), .int (nI th), .long za, .long zb, .ref z4, .ref z5, .ref z6, .int (nI el), .int (nI be), .ref z9, .ref z10, .ref z11, .ref z12, .int (b2i gz), .ref z14, .ref z15, .ref z16, .int (nI mm), .int (nI tt), .ref z19, .ref z20, .ref z21, .ref z22, .ref z23, .int (nI gm), .ref z25, .ref z26, .ref z27, .ref z28, .int (nI rn), .ref z30, .ref z31, .ref z32])), kI G z10 192 (nF le), kI G z11 192 (nF lb), kZ G z12 192 (bF br)] := by
  refine MF.ofJ (cc := cX10_asked) (maxL := 4) (ret := (some .int)) (own := RX10) (lv := [(0, .ref z), (1, .int (nI b)), (2, .int (nI n))]) (by decide) rfl rfl (Nat.le_of_ble_eq_true rfl) rfl ?_
  intro κ X
  have i_X10 : ∀ w ∈ wsX100, w ∈ wsX10_asked := by decide +kernel
  refine j_iconst (pc := 0) X (v := nI 0) dX10_asked_0 (by decide) ?_
  refine j_istore_n (pc := 1) X (lv' := [(3, .int (nI 0)), (0, .ref z), (1, .int (nI b)), (2, .int (nI n))]) dX10_asked_1 rfl (by decide) rfl ?_
  refine j_lv [1, 2, 3, 0] (lv' := [(0, .ref z), (1, .int (nI b)), (2, .int (nI n)), (3, .int (nI 0))]) rfl ?_
  exact mX10_asked_L2 l G z z4 z5 z6 z9 z10 z11 z12 z14 z15 z16 z19 z20 z21 z22 z23 z25 z26 z27 z28 z30 z31 z32 st th za zb el be gz mm tt gm rn le lb br b n hel hle hlb hb hn κ X    (el - 0 + 1) 0 (by omega) (by rfl) (Nat.lt_succ_self _)

set_option maxHeartbeats 4000000 in
set_option maxRecDepth 100000 in
theorem mX10_pair_L50 (l : Launch) (G : jG) (z : Nat) (z4 : Nat) (z5 : Nat) (z6 : Nat) (z9 : Nat) (z10 : Nat) (z11 : Nat) (z12 : Nat) (z14 : Nat) (z15 : Nat) (z16 : Nat) (z19 : Nat) (z20 : Nat) (z21 : Nat) (z22 : Nat) (z23 : Nat) (z25 : Nat) (z26 : Nat) (z27 : Nat) (z28 : Nat) (z30 : Nat) (z31 : Nat) (z32 : Nat) (st : Nat) (th : Nat) (za : Int64) (zb : Int64) (el : Nat) (be : Nat) (gz : Bool) (mm : Nat) (tt : Nat) (gm : Nat) (rn : Nat) (le : Nat → Nat) (lb : Nat → Nat) (br : Nat → Bool) (pl : Nat → Nat) (gi : Nat → Option Nat) (ak : Nat → Nat) (hel : el ≤ 12) (hbe : be ≤ 16) (hle : ∀ k, le k ≤ 100) (hlb : ∀ k, lb k ≤ 100) (hpl : ∀ k, pl k ≤ 4) (hgi : ∀ k, ob 12 (gi k)) (hak : ∀ k, ak k ≤ 12) (κ : jK) (X : CX κ l yX10_pair cX10_pair 4 RX10 wsX10_pair (some .int) ({ frames := 3, cells := 0, slots := 0, locals := 72 }) G (va_A [(z, .inr (10, [.int (nI st), .int (nI th), .long za, .long zb, .ref z4, .ref z5, .ref z6, .int (nI el), .int (nI be), .ref z9, .ref z10, .ref z11, .ref z12, .int (b2i gz), .ref z14, .ref z15, .ref z16, .int (nI mm), .int (nI tt), .ref z19, .ref z20, .ref z21, .ref z22, .ref z23, .int (nI gm), .ref z25, .ref z26, .ref z27, .ref z28, .int (nI rn), .ref z30, .ref z31, .ref z32])), kI G z10 192 (nF le), kI G z11 192 (nF lb), kZ G z12 192 (bF br), kI G z9 12 (nF pl), kI G z14 16 (oF gi), kI G z15 16 (nF ak)] (js κ).heap.size)) (no42 : Nat) (hK42 : ∀ (mr : Bool) (g1 : Nat → Option Nat) (a1 : Nat → Nat) (f : Nat) (hok : pOk (g1, a1)) (hmr : mr = true → pot a1 be < f ∧ mWh pl le lb br el be f (g1, a1) = mWh pl le lb br el be 200 (pIni be gi ak)) (hmf : mr = false → (g1, a1) = mWh pl le lb br el be 200 (pIni be gi ak)) (_ : f < no42), JJ κ 4 G (va_A [(z, .inr (10, [.int (nI st), .int (nI th), .long za, .long zb, .ref z4, .ref z5, .ref z6, .int (nI el), .int (nI be), .ref z9, .ref z10, .ref z11, .ref z12, .int (b2i gz), .ref z14, .ref z15, .ref z16, .int (nI mm), .int (nI tt), .ref z19, .ref z20, .ref z21, .ref z22, .ref z23, .int (nI gm), .ref z25, .ref z26, .ref z27, .ref z28, .int (nI rn), .ref z30, .ref z31, .ref z32])), kI G z10 192 (nF le), kI G z11 192 (nF lb), kZ G z12 192 (bF br), kI G z9 12 (nF pl), kI G z14 16 (oF gi), kI G z15 16 (nF ak)] (js κ).heap.size) 0 0 (jQ κ G [(z, .inr (10, [.int (nI st), .int (nI th), .long za, .long zb, .ref z4, .ref z5, .ref z6, .int (nI el), .int (nI be), .ref z9, .ref z10, .ref z11, .ref z12, .int (b2i gz), .ref z14, .ref z15, .ref z16, .int (nI mm), .int (nI tt), .ref z19, .ref z20, .ref z21, .ref z22, .ref z23, .int (nI gm), .ref z25, .ref z26, .ref z27, .ref z28, .int (nI rn), .ref z30, .ref z31, .ref z32])), kI G z10 192 (nF le), kI G z11 192 (nF lb), kZ G z12 192 (bF br), kI G z9 12 (nF pl), kI G z14 16 (oF gi), kI G z15 16 (nF ak)] (fun r w' => r = some (.int (nI (cntS (mWh pl le lb br el be 200 (pIni be gi ak)).1 be))) ∧ w' = [(z, .inr (10, [.int (nI 0), .int (nI 0), .long za, .long zb, .ref z4, .ref z5, .ref z6, .int (nI el), .int (nI be), .ref z9, .ref z10, .ref z11, .ref z12, .int (b2i true), .ref z14, .ref z15, .ref z16, .int (nI mm), .int (nI tt), .ref z19, .ref z20, .ref z21, .ref z22, .ref z23, .int (nI gm), .ref z25, .ref z26, .ref z27, .ref z28, .int (nI rn), .ref z30, .ref z31, .ref z32])), kI G z10 192 (nF le), kI G z11 192 (nF lb), kZ G z12 192 (bF br), kI G z9 12 (nF pl), kI G z14 16 (oF ((mWh pl le lb br el be 200 (pIni be gi ak)).1)), kI G z15 16 (nF ((mWh pl le lb br el be 200 (pIni be gi ak)).2))]) 0 0) 42 [(0, .ref z), (1, .int (b2i mr))] [] [(z, .inr (10, [.int (nI 0), .int (nI 0), .long za, .long zb, .ref z4, .ref z5, .ref z6, .int (nI el), .int (nI be), .ref z9, .ref z10, .ref z11, .ref z12, .int (b2i gz), .ref z14, .ref z15, .ref z16, .int (nI mm), .int (nI tt), .ref z19, .ref z20, .ref z21, .ref z22, .ref z23, .int (nI gm), .ref z25, .ref z26, .ref z27, .ref z28, .int (nI rn), .ref z30, .ref z31, .ref z32])), kI G z10 192 (nF le), kI G z11 192 (nF lb), kZ G z12 192 (bF br), kI G z9 12 (nF pl), kI G z14 16 (oF g1), kI G z15 16 (nF a1)])  (mr : Bool) (g1 : Nat → Option Nat) (a1 : Nat → Nat) (f : Nat) (hok : pOk (g1, a1)) (hmr : mr = true → pot a1 be < f ∧ mWh pl le lb br el be f (g1, a1) = mWh pl le lb br el be 200 (pIni be gi ak)) (hmf : mr = false → (g1, a1) = mWh pl le lb br el be 200 (pIni be gi ak)) (hm42 : f < no42 + 1) : ∀ (fu : Nat) (b : Nat) (m2 : Bool) (g2 : Nat → Option Nat) (a2 : Nat → Nat) (hb : b ≤ be) (hs : ((g2, a2), m2) = mFor pl le lb br el be (g1, a1) b) (c_43 : mr = true) (_ : be - b < fu), JJ κ 4 G (va_A [(z, .inr (10, [.int (nI st), .int (nI th), .long za, .long zb, .ref z4, .ref z5, .ref z6, .int (nI el), .int (nI be), .ref z9, .ref z10, .ref z11, .ref z12, .int (b2i gz), .ref z14, .ref z15, .ref z16, .int (nI mm), .int (nI tt), .ref z19, .ref z20, .ref z21, .ref z22, .ref z23, .int (nI gm), .ref z25, .ref z26, .ref z27, .ref z28, .int (nI rn), .ref z30, .ref z31, .ref z32])), kI G z10 192 (nF le), kI G z11 192 (nF lb), kZ G z12 192 (bF br), kI G z9 12 (nF pl), kI G z14 16 (oF gi), kI G z15 16 (nF ak)] (js κ).heap.size) 0 0 (jQ κ G [(z, .inr (10, [.int (nI st), .int (nI th), .long za, .long zb, .ref z4, .ref z5, .ref z6, .int (nI el), .int (nI be), .ref z9, .ref z10, .ref z11, .ref z12, .int (b2i gz), .ref z14, .ref z15, .ref z16, .int (nI mm), .int (nI tt), .ref z19, .ref z20, .ref z21, .ref z22, .ref z23, .int (nI gm), .ref z25, .ref z26, .ref z27, .ref z28, .int (nI rn), .ref z30, .ref z31, .ref z32])), kI G z10 192 (nF le), kI G z11 192 (nF lb), kZ G z12 192 (bF br), kI G z9 12 (nF pl), kI G z14 16 (oF gi), kI G z15 16 (nF ak)] (fun r w' => r = some (.int (nI (cntS (mWh pl le lb br el be 200 (pIni be gi ak)).1 be))) ∧ w' = [(z, .inr (10, [.int (nI 0), .int (nI 0), .long za, .long zb, .ref z4, .ref z5, .ref z6, .int (nI el), .int (nI be), .ref z9, .ref z10, .ref z11, .ref z12, .int (b2i true), .ref z14, .ref z15, .ref z16, .int (nI mm), .int (nI tt), .ref z19, .ref z20, .ref z21, .ref z22, .ref z23, .int (nI gm), .ref z25, .ref z26, .ref z27, .ref z28, .int (nI rn), .ref z30, .ref z31, .ref z32])), kI G z10 192 (nF le), kI G z11 192 (nF lb), kZ G z12 192 (bF br), kI G z9 12 (nF pl), kI G z14 16 (oF ((mWh pl le lb br el be 200 (pIni be gi ak)).1)), kI G z15 16 (nF ((mWh pl le lb br el be 200 (pIni be gi ak)).2))]) 0 0) 50 [(0, .ref z), (1, .int (b2i m2)), (2, .int (nI b))] [] [(z, .inr (10, [.int (nI 0), .int (nI 0), .long za, .long zb, .ref z4, .ref z5, .ref z6, .int (nI el), .int (nI be), .ref z9, .ref z10, .ref z11, .ref z12, .int (b2i gz), .ref z14, .ref z15, .ref z16, .int (nI mm), .int (nI tt), .ref z19, .ref z20, .ref z21, .ref z22, .ref z23, .int (nI gm), .ref z25, .ref z26, .ref z27, .ref z28, .int (nI rn), .ref z30, .ref z31, .ref z32])), kI G z10 192 (nF le), kI G z11 192 (nF lb), kZ G z12 192 (bF br), kI G z9 12 (nF pl), kI G z14 16 (oF g2), kI G z15 16 (nF a2)] := by
  have i_X10 : ∀ w ∈ wsX100, w ∈ wsX10_pair := by decide +kernel
  intro fu
  induction fu with
  | zero => intro b m2 g2 a2 hb hs c_43 hms; exact absurd hms (Nat.not_lt_zero _)
  | succ fu ih =>
    intro b m2 g2 a2 hb hs c_43 hms
    have hok2 : pOk (g2, a2) := (by have h9 := mFor_ok (pl := pl) (le := le) (lb := lb) (br := br) (be := be) hel hok b; rw [← hs] at h9; exact h9)
    refine j_iload_n (pc := 50) X dX10_pair_50 rfl 2 rfl ?_
    refine j_aload_n (pc := 51) X dX10_pair_51 rfl 0 rfl ?_
    refine j_get (pc := 52) X 10 i_X10 0 rfl rfl 8 (by decide) (by decide +kernel) rfl dX10_pair_52 ?_
    refine j_icmpN_ge (pc := 55) X (a := b) (b := be) (by first | omega | (have h9 := cntO_le (va_up g2 b (some e)) e be; omega) | exact Nat.lt_of_le_of_lt (hpl _) (by decide) | (have h9 := hok2.2 b; simp only at h9; omega)) (by first | omega | (have h9 := cntO_le (va_up g2 b (some e)) e be; omega) | exact Nat.lt_of_le_of_lt (hpl _) (by decide) | (have h9 := hok2.2 b; simp only at h9; omega)) (tgt := 140) dX10_pair_55 (by decide) (fun c_55 => ?_) (fun c_55 => ?_)
    · skip
      have hbb : b = be := by omega
      refine j_goto (pc := 140) X (tgt := 42) dX10_pair_140 (by decide) ?_
      refine j_lv [0, 1] (lv' := [(0, .ref z), (1, .int (b2i m2))]) rfl ?_
      exact hK42 m2 g2 a2 (f - 1) (by rw [hbb] at hs; have h9 := mFor_ok (pl := pl) (le := le) (lb := lb) (br := br) (be := be) hel hok be; rw [← hs] at h9; exact h9) (by intro h9; have h8 := mFor_pot (pl := pl) (le := le) (lb := lb) (br := br) hel hok be (Nat.le_refl _); rw [hbb] at hs; rw [← hs, h9] at h8; simp only [if_true] at h8; have h7 := (hmr c_43).1; refine ⟨by omega, ?_⟩; rw [← (hmr c_43).2, show f = (f - 1) + 1 by omega, mWh, ← hs, h9]; simp) (by intro h9; rw [hbb] at hs; have h7 := (hmr c_43).1; rw [← (hmr c_43).2, show f = (f - 1) + 1 by omega, mWh, ← hs, h9]; simp) (by rcases hmr c_43 with ⟨h9, -⟩; omega)
    · skip
      refine j_aload_n (pc := 58) X dX10_pair_58 rfl 0 rfl ?_
      refine j_get (pc := 59) X 10 i_X10 0 rfl rfl 14 (by decide) (by decide +kernel) rfl dX10_pair_59 ?_
      refine j_iload_n (pc := 62) X dX10_pair_62 rfl 2 rfl ?_
      refine j_iald (pc := 63) X 5 rfl (vp_in_nI (by omega) (by decide)) (v := oI (g2 b)) (congrArg (oF g2) (nI_clamp (by omega))) dX10_pair_63 ?_
      refine j_ifO_lt (pc := 64) X (a := (g2 b)) (by first | exact ob_n | exact (hok2.1 _).big (by decide) | exact (askd_ob _ _ _ _ _ _).big (by omega)) (tgt := 71) dX10_pair_64 (by decide) (fun c_64 => ?_) (fun c_64 => ?_)
      · skip
        refine j_aload_n (pc := 71) X dX10_pair_71 rfl 0 rfl ?_
        refine j_iload_n (pc := 72) X dX10_pair_72 rfl 2 rfl ?_
        refine j_aload_n (pc := 73) X dX10_pair_73 rfl 0 rfl ?_
        refine j_get (pc := 74) X 10 i_X10 0 rfl rfl 15 (by decide) (by decide +kernel) rfl dX10_pair_74 ?_
        refine j_iload_n (pc := 77) X dX10_pair_77 rfl 2 rfl ?_
        refine j_iald (pc := 78) X 6 rfl (vp_in_nI (by omega) (by decide)) (v := nI (a2 b)) (congrArg (nF a2) (nI_clamp (by omega))) dX10_pair_78 ?_
        refine j_ciP (pc := 79) X [0, 1, 2, 3] rfl (j_rV X (b := z) (As := [.int (nI b), .int (nI (a2 b))]) (ci := 10) (rest := []) 2 (mX10_asked l G z z4 z5 z6 z9 z10 z11 z12 z14 z15 z16 z19 z20 z21 z22 z23 z25 z26 z27 z28 z30 z31 z32 0 0 za zb el be gz mm tt gm rn le lb br b (a2 b) (by first | assumption | omega | exact ob_s (by omega) | exact ob_n) (by first | assumption | omega | exact ob_s (by omega) | exact ob_n) (by first | assumption | omega | exact ob_s (by omega) | exact ob_n) (by first | assumption | omega | exact ob_s (by omega) | exact ob_n) (by exact hok2.2 _)) gX10_pair_X10_asked rfl rfl rfl (by decide +kernel) ⟨Nat.le_of_ble_eq_true rfl, Nat.le_of_ble_eq_true rfl⟩ rfl rfl 0 rfl [0, 1, 2, 3] rfl rfl rfl (Nat.le_of_ble_eq_true rfl) dX10_pair_79 ⟨Nat.le_of_ble_eq_true rfl, Nat.le_of_ble_eq_true rfl⟩) ?_
        refine j_istore_n (pc := 82) X (lv' := [(3, .int (oI (askd le lb br el b (a2 b)))), (0, .ref z), (1, .int (b2i m2)), (2, .int (nI b))]) dX10_pair_82 rfl (by decide) rfl ?_
        refine j_iload_n (pc := 83) X dX10_pair_83 rfl 0 rfl ?_
        refine j_ifO_ge (pc := 84) X (a := (askd le lb br el b (a2 b))) (by first | exact ob_n | exact (hok2.1 _).big (by decide) | exact (askd_ob _ _ _ _ _ _).big (by omega)) (tgt := 90) dX10_pair_84 (by decide) (fun c_84 => ?_) (fun c_84 => ?_)
        · skip
          obtain ⟨e, hq_e⟩ := Option.ne_none_iff_exists'.mp c_84; have he := askd_lt hq_e; have hq_f := hq_e
          refine j_lvq (lv' := [(3, .int (nI e)), (0, .ref z), (1, .int (b2i m2)), (2, .int (nI b))]) (by rw [hq_e] <;> rfl) ?_
          refine j_iconst (pc := 90) X (v := nI 1) dX10_pair_90 (by decide) ?_
          refine j_istore_n (pc := 91) X (lv' := [(1, .int (nI 1)), (3, .int (nI e)), (0, .ref z), (2, .int (nI b))]) dX10_pair_91 rfl (by decide) rfl ?_
          refine j_aload_n (pc := 92) X dX10_pair_92 rfl 2 rfl ?_
          refine j_get (pc := 93) X 10 i_X10 0 rfl rfl 15 (by decide) (by decide +kernel) rfl dX10_pair_93 ?_
          refine j_iload_n (pc := 96) X dX10_pair_96 rfl 3 rfl ?_
          refine j_dup2 (pc := 97) X dX10_pair_97 rfl rfl ?_
          refine j_iald (pc := 98) X 6 rfl (vp_in_nI (by omega) (by decide)) (v := nI (a2 b)) (congrArg (nF a2) (nI_clamp (by omega))) dX10_pair_98 ?_
          refine j_iconst (pc := 99) X (v := nI 1) dX10_pair_99 (by decide) ?_
          refine j_iadd (pc := 100) X dX10_pair_100 ?_
          refine j_topi (z := nI (a2 b + 1)) (nI_add _ _) ?_
          refine j_iast (pc := 101) X (f2 := (nF (va_up a2 b (a2 b + 1)))) (ws' := [(z, .inr (10, [.int (nI 0), .int (nI 0), .long za, .long zb, .ref z4, .ref z5, .ref z6, .int (nI el), .int (nI be), .ref z9, .ref z10, .ref z11, .ref z12, .int (b2i gz), .ref z14, .ref z15, .ref z16, .int (nI mm), .int (nI tt), .ref z19, .ref z20, .ref z21, .ref z22, .ref z23, .int (nI gm), .ref z25, .ref z26, .ref z27, .ref z28, .int (nI rn), .ref z30, .ref z31, .ref z32])), kI G z10 192 (nF le), kI G z11 192 (nF lb), kZ G z12 192 (bF br), kI G z9 12 (nF pl), kI G z14 16 (oF g2), kI G z15 16 (nF (va_up a2 b (a2 b + 1)))]) 6 rfl (vp_in_nI (by omega) (by decide)) dX10_pair_101 (by rw [nI_clamp (by omega)]; exact nF_up a2 b (a2 b + 1)) rfl ?_
          refine j_aload_n (pc := 102) X dX10_pair_102 rfl 2 rfl ?_
          refine j_get (pc := 103) X 10 i_X10 0 rfl rfl 14 (by decide) (by decide +kernel) rfl dX10_pair_103 ?_
          refine j_iload_n (pc := 106) X dX10_pair_106 rfl 3 rfl ?_
          refine j_iload_n (pc := 107) X dX10_pair_107 rfl 1 rfl ?_
          refine j_iast (pc := 108) X (f2 := (oF (va_up g2 b (some e)))) (ws' := [(z, .inr (10, [.int (nI 0), .int (nI 0), .long za, .long zb, .ref z4, .ref z5, .ref z6, .int (nI el), .int (nI be), .ref z9, .ref z10, .ref z11, .ref z12, .int (b2i gz), .ref z14, .ref z15, .ref z16, .int (nI mm), .int (nI tt), .ref z19, .ref z20, .ref z21, .ref z22, .ref z23, .int (nI gm), .ref z25, .ref z26, .ref z27, .ref z28, .int (nI rn), .ref z30, .ref z31, .ref z32])), kI G z10 192 (nF le), kI G z11 192 (nF lb), kZ G z12 192 (bF br), kI G z9 12 (nF pl), kI G z14 16 (oF (va_up g2 b (some e))), kI G z15 16 (nF (va_up a2 b (a2 b + 1)))]) 5 rfl (vp_in_nI (by omega) (by decide)) dX10_pair_108 (by rw [nI_clamp (by omega)]; exact oF_up g2 b (some e)) rfl ?_
          refine j_aload_n (pc := 109) X dX10_pair_109 rfl 2 rfl ?_
          refine j_iload_n (pc := 110) X dX10_pair_110 rfl 1 rfl ?_
          refine j_ciP (pc := 111) X [0, 5] rfl (j_rV X (b := z) (As := [.int (nI e)]) (ci := 10) (rest := []) 1 (mX10_hasOf l G z z4 z5 z6 z9 z10 z11 z12 z14 z15 z16 z19 z20 z21 z22 z23 z25 z26 z27 z28 z30 z31 z32 0 0 za zb el be gz mm tt gm rn (va_up g2 b (some e)) e (by exact ob_up hok2.1 (ob_s (by omega))) (by first | assumption | omega | exact ob_s (by omega) | exact ob_n) (by first | assumption | omega | exact ob_s (by omega) | exact ob_n)) gX10_pair_X10_hasOf rfl rfl rfl (by decide +kernel) ⟨Nat.le_of_ble_eq_true rfl, Nat.le_of_ble_eq_true rfl⟩ rfl rfl 0 rfl [0, 5] rfl rfl rfl (Nat.le_of_ble_eq_true rfl) dX10_pair_111 ⟨Nat.le_of_ble_eq_true rfl, Nat.le_of_ble_eq_true rfl⟩) ?_
          refine j_aload_n (pc := 114) X dX10_pair_114 rfl 2 rfl ?_
          refine j_get (pc := 115) X 10 i_X10 0 rfl rfl 9 (by decide) (by decide +kernel) rfl dX10_pair_115 ?_
          refine j_iload_n (pc := 118) X dX10_pair_118 rfl 1 rfl ?_
          refine j_iald (pc := 119) X 4 rfl (vp_in_nI (by omega) (by decide)) (v := nI (pl e)) (congrArg (nF pl) (nI_clamp (by omega))) dX10_pair_119 ?_
          refine j_icmpN_le (pc := 120) X (a := (cntO (va_up g2 b (some e)) e be)) (b := (pl e)) (by first | omega | (have h9 := cntO_le (va_up g2 b (some e)) e be; omega) | exact Nat.lt_of_le_of_lt (hpl _) (by decide) | (have h9 := hok2.2 b; simp only at h9; omega)) (by first | omega | (have h9 := cntO_le (va_up g2 b (some e)) e be; omega) | exact Nat.lt_of_le_of_lt (hpl _) (by decide) | (have h9 := hok2.2 b; simp only at h9; omega)) (tgt := 134) dX10_pair_120 (by decide) (fun c_120 => ?_) (fun c_120 => ?_)
          · skip
            have hq_c : ¬ pl e < cntO (va_up g2 b (some e)) e be := by omega
            refine j_iinc (pc := 134) X (v := nI (b + 1)) (lv' := [(2, .int (nI (b + 1))), (1, .int (nI 1)), (3, .int (nI e)), (0, .ref z)]) dX10_pair_134 3 rfl (nI_1 _) (by decide) rfl ?_
            refine j_goto (pc := 137) X (tgt := 50) dX10_pair_137 (by decide) ?_
            refine j_lv [3, 1, 0] (lv' := [(0, .ref z), (1, .int (nI 1)), (2, .int (nI (b + 1)))]) rfl ?_
            refine j_lvq (lv' := [(0, .ref z), (1, .int (b2i true)), (2, .int (nI (b + 1)))]) rfl ?_
            exact ih (b + 1) true (va_up g2 b (some e)) (va_up a2 b (a2 b + 1)) (by omega) (by simp only [mFor]; rw [← hs]; simp [mSt, mDrop, hq_f, hq_c, c_55, c_64, c_84, c_120]) (c_43) (by omega)
          · skip
            have hq_c : pl e < cntO (va_up g2 b (some e)) e be := (by omega); obtain ⟨w, hq_w⟩ := lst_some (le := le) (g := va_up g2 b (some e)) (e := e) be (by omega); have hw16 := lst_ob le (va_up g2 b (some e)) e be w hq_w; have hq_v := hq_w
            refine j_aload_n (pc := 123) X dX10_pair_123 rfl 2 rfl ?_
            refine j_get (pc := 124) X 10 i_X10 0 rfl rfl 14 (by decide) (by decide +kernel) rfl dX10_pair_124 ?_
            refine j_aload_n (pc := 127) X dX10_pair_127 rfl 2 rfl ?_
            refine j_iload_n (pc := 128) X dX10_pair_128 rfl 1 rfl ?_
            refine j_ciP (pc := 129) X [0, 5, 1] rfl (j_rV X (b := z) (As := [.int (nI e)]) (ci := 10) (rest := [.ref z14]) 1 (mX10_worst l G z z4 z5 z6 z9 z10 z11 z12 z14 z15 z16 z19 z20 z21 z22 z23 z25 z26 z27 z28 z30 z31 z32 0 0 za zb el be gz mm tt gm rn (va_up g2 b (some e)) le e (by exact ob_up hok2.1 (ob_s (by omega))) (by first | assumption | omega | exact ob_s (by omega) | exact ob_n) (by first | assumption | omega | exact ob_s (by omega) | exact ob_n) (by first | assumption | omega | exact ob_s (by omega) | exact ob_n)) gX10_pair_X10_worst rfl rfl rfl (by decide +kernel) ⟨Nat.le_of_ble_eq_true rfl, Nat.le_of_ble_eq_true rfl⟩ rfl rfl 0 rfl [0, 5, 1] rfl rfl rfl (Nat.le_of_ble_eq_true rfl) dX10_pair_129 ⟨Nat.le_of_ble_eq_true rfl, Nat.le_of_ble_eq_true rfl⟩) ?_
            refine j_topi (z := nI w) ((by rw [hq_w]; rfl)) ?_
            refine j_iconst (pc := 132) X (v := oI none) dX10_pair_132 (by decide) ?_
            refine j_iast (pc := 133) X (f2 := (oF (va_up (va_up g2 b (some e)) w none))) (ws' := [(z, .inr (10, [.int (nI 0), .int (nI 0), .long za, .long zb, .ref z4, .ref z5, .ref z6, .int (nI el), .int (nI be), .ref z9, .ref z10, .ref z11, .ref z12, .int (b2i gz), .ref z14, .ref z15, .ref z16, .int (nI mm), .int (nI tt), .ref z19, .ref z20, .ref z21, .ref z22, .ref z23, .int (nI gm), .ref z25, .ref z26, .ref z27, .ref z28, .int (nI rn), .ref z30, .ref z31, .ref z32])), kI G z10 192 (nF le), kI G z11 192 (nF lb), kZ G z12 192 (bF br), kI G z9 12 (nF pl), kI G z14 16 (oF (va_up (va_up g2 b (some e)) w none)), kI G z15 16 (nF (va_up a2 b (a2 b + 1)))]) 5 rfl (vp_in_nI (by omega) (by decide)) dX10_pair_133 (by rw [nI_clamp (by omega)]; exact oF_up (va_up g2 b (some e)) w none) rfl ?_
            refine j_iinc (pc := 134) X (v := nI (b + 1)) (lv' := [(2, .int (nI (b + 1))), (1, .int (nI 1)), (3, .int (nI e)), (0, .ref z)]) dX10_pair_134 3 rfl (nI_1 _) (by decide) rfl ?_
            refine j_goto (pc := 137) X (tgt := 50) dX10_pair_137 (by decide) ?_
            refine j_lv [3, 1, 0] (lv' := [(0, .ref z), (1, .int (nI 1)), (2, .int (nI (b + 1)))]) rfl ?_
            refine j_lvq (lv' := [(0, .ref z), (1, .int (b2i true)), (2, .int (nI (b + 1)))]) rfl ?_
            exact ih (b + 1) true (va_up (va_up g2 b (some e)) w none) (va_up a2 b (a2 b + 1)) (by omega) (by simp only [mFor]; rw [← hs]; simp [mSt, mDrop, hq_f, hq_c, hq_v, c_55, c_64, c_84, c_120]) (c_43) (by omega)
        · skip
          refine j_goto (pc := 87) X (tgt := 134) dX10_pair_87 (by decide) ?_
          refine j_iinc (pc := 134) X (v := nI (b + 1)) (lv' := [(2, .int (nI (b + 1))), (3, .int (oI (askd le lb br el b (a2 b)))), (0, .ref z), (1, .int (b2i m2))]) dX10_pair_134 3 rfl (nI_1 _) (by decide) rfl ?_
          refine j_goto (pc := 137) X (tgt := 50) dX10_pair_137 (by decide) ?_
          refine j_lv [2, 3, 0] (lv' := [(0, .ref z), (1, .int (b2i m2)), (2, .int (nI (b + 1)))]) rfl ?_
          exact ih (b + 1) m2 g2 a2 (by omega) (by simp only [mFor]; rw [← hs]; simp [mSt, mDrop, c_55, c_64, c_84]) (c_43) (by omega)
      · skip
        refine j_iconst (pc := 67) X (v := oI none) dX10_pair_67 (by decide) ?_
        refine j_goto (pc := 68) X (tgt := 82) dX10_pair_68 (by decide) ?_
        refine j_istore_n (pc := 82) X (lv' := [(3, .int (oI none)), (0, .ref z), (1, .int (b2i m2)), (2, .int (nI b))]) dX10_pair_82 rfl (by decide) rfl ?_
        refine j_iload_n (pc := 83) X dX10_pair_83 rfl 0 rfl ?_
        refine j_ifO_ge (pc := 84) X (a := none) (by first | exact ob_n | exact (hok2.1 _).big (by decide) | exact (askd_ob _ _ _ _ _ _).big (by omega)) (tgt := 90) dX10_pair_84 (by decide) (fun c_84 => ?_) (fun c_84 => ?_)
        · skip
          exact absurd rfl c_84
        · skip
          refine j_goto (pc := 87) X (tgt := 134) dX10_pair_87 (by decide) ?_
          refine j_iinc (pc := 134) X (v := nI (b + 1)) (lv' := [(2, .int (nI (b + 1))), (3, .int (oI none)), (0, .ref z), (1, .int (b2i m2))]) dX10_pair_134 3 rfl (nI_1 _) (by decide) rfl ?_
          refine j_goto (pc := 137) X (tgt := 50) dX10_pair_137 (by decide) ?_
          refine j_lv [2, 3, 0] (lv' := [(0, .ref z), (1, .int (b2i m2)), (2, .int (nI (b + 1)))]) rfl ?_
          exact ih (b + 1) m2 g2 a2 (by omega) (by simp only [mFor]; rw [← hs]; simp [mSt, mDrop, c_55, c_64, c_84]) (c_43) (by omega)
set_option maxHeartbeats 4000000 in
set_option maxRecDepth 100000 in
theorem mX10_pair_L152 (l : Launch) (G : jG) (z : Nat) (z4 : Nat) (z5 : Nat) (z6 : Nat) (z9 : Nat) (z10 : Nat) (z11 : Nat) (z12 : Nat) (z14 : Nat) (z15 : Nat) (z16 : Nat) (z19 : Nat) (z20 : Nat) (z21 : Nat) (z22 : Nat) (z23 : Nat) (z25 : Nat) (z26 : Nat) (z27 : Nat) (z28 : Nat) (z30 : Nat) (z31 : Nat) (z32 : Nat) (st : Nat) (th : Nat) (za : Int64) (zb : Int64) (el : Nat) (be : Nat) (gz : Bool) (mm : Nat) (tt : Nat) (gm : Nat) (rn : Nat) (le : Nat → Nat) (lb : Nat → Nat) (br : Nat → Bool) (pl : Nat → Nat) (gi : Nat → Option Nat) (ak : Nat → Nat) (hel : el ≤ 12) (hbe : be ≤ 16) (hle : ∀ k, le k ≤ 100) (hlb : ∀ k, lb k ≤ 100) (hpl : ∀ k, pl k ≤ 4) (hgi : ∀ k, ob 12 (gi k)) (hak : ∀ k, ak k ≤ 12) (κ : jK) (X : CX κ l yX10_pair cX10_pair 4 RX10 wsX10_pair (some .int) ({ frames := 3, cells := 0, slots := 0, locals := 72 }) G (va_A [(z, .inr (10, [.int (nI st), .int (nI th), .long za, .long zb, .ref z4, .ref z5, .ref z6, .int (nI el), .int (nI be), .ref z9, .ref z10, .ref z11, .ref z12, .int (b2i gz), .ref z14, .ref z15, .ref z16, .int (nI mm), .int (nI tt), .ref z19, .ref z20, .ref z21, .ref z22, .ref z23, .int (nI gm), .ref z25, .ref z26, .ref z27, .ref z28, .int (nI rn), .ref z30, .ref z31, .ref z32])), kI G z10 192 (nF le), kI G z11 192 (nF lb), kZ G z12 192 (bF br), kI G z9 12 (nF pl), kI G z14 16 (oF gi), kI G z15 16 (nF ak)] (js κ).heap.size))    : ∀ (fu : Nat) (b : Nat) (hb : b ≤ be) (hokf : pOk (mWh pl le lb br el be 200 (pIni be gi ak))) (_ : be - b < fu), JJ κ 4 G (va_A [(z, .inr (10, [.int (nI st), .int (nI th), .long za, .long zb, .ref z4, .ref z5, .ref z6, .int (nI el), .int (nI be), .ref z9, .ref z10, .ref z11, .ref z12, .int (b2i gz), .ref z14, .ref z15, .ref z16, .int (nI mm), .int (nI tt), .ref z19, .ref z20, .ref z21, .ref z22, .ref z23, .int (nI gm), .ref z25, .ref z26, .ref z27, .ref z28, .int (nI rn), .ref z30, .ref z31, .ref z32])), kI G z10 192 (nF le), kI G z11 192 (nF lb), kZ G z12 192 (bF br), kI G z9 12 (nF pl), kI G z14 16 (oF gi), kI G z15 16 (nF ak)] (js κ).heap.size) 0 0 (jQ κ G [(z, .inr (10, [.int (nI st), .int (nI th), .long za, .long zb, .ref z4, .ref z5, .ref z6, .int (nI el), .int (nI be), .ref z9, .ref z10, .ref z11, .ref z12, .int (b2i gz), .ref z14, .ref z15, .ref z16, .int (nI mm), .int (nI tt), .ref z19, .ref z20, .ref z21, .ref z22, .ref z23, .int (nI gm), .ref z25, .ref z26, .ref z27, .ref z28, .int (nI rn), .ref z30, .ref z31, .ref z32])), kI G z10 192 (nF le), kI G z11 192 (nF lb), kZ G z12 192 (bF br), kI G z9 12 (nF pl), kI G z14 16 (oF gi), kI G z15 16 (nF ak)] (fun r w' => r = some (.int (nI (cntS (mWh pl le lb br el be 200 (pIni be gi ak)).1 be))) ∧ w' = [(z, .inr (10, [.int (nI 0), .int (nI 0), .long za, .long zb, .ref z4, .ref z5, .ref z6, .int (nI el), .int (nI be), .ref z9, .ref z10, .ref z11, .ref z12, .int (b2i true), .ref z14, .ref z15, .ref z16, .int (nI mm), .int (nI tt), .ref z19, .ref z20, .ref z21, .ref z22, .ref z23, .int (nI gm), .ref z25, .ref z26, .ref z27, .ref z28, .int (nI rn), .ref z30, .ref z31, .ref z32])), kI G z10 192 (nF le), kI G z11 192 (nF lb), kZ G z12 192 (bF br), kI G z9 12 (nF pl), kI G z14 16 (oF ((mWh pl le lb br el be 200 (pIni be gi ak)).1)), kI G z15 16 (nF ((mWh pl le lb br el be 200 (pIni be gi ak)).2))]) 0 0) 152 [(0, .ref z), (2, .int (nI (cntS (mWh pl le lb br el be 200 (pIni be gi ak)).1 b))), (3, .int (nI b))] [] [(z, .inr (10, [.int (nI 0), .int (nI 0), .long za, .long zb, .ref z4, .ref z5, .ref z6, .int (nI el), .int (nI be), .ref z9, .ref z10, .ref z11, .ref z12, .int (b2i true), .ref z14, .ref z15, .ref z16, .int (nI mm), .int (nI tt), .ref z19, .ref z20, .ref z21, .ref z22, .ref z23, .int (nI gm), .ref z25, .ref z26, .ref z27, .ref z28, .int (nI rn), .ref z30, .ref z31, .ref z32])), kI G z10 192 (nF le), kI G z11 192 (nF lb), kZ G z12 192 (bF br), kI G z9 12 (nF pl), kI G z14 16 (oF ((mWh pl le lb br el be 200 (pIni be gi ak)).1)), kI G z15 16 (nF ((mWh pl le lb br el be 200 (pIni be gi ak)).2))] := by
  have i_X10 : ∀ w ∈ wsX100, w ∈ wsX10_pair := by decide +kernel
  intro fu
  induction fu with
  | zero => intro b hb hokf hms; exact absurd hms (Nat.not_lt_zero _)
  | succ fu ih =>
    intro b hb hokf hms
    refine j_iload_n (pc := 152) X dX10_pair_152 rfl 2 rfl ?_
    refine j_aload_n (pc := 153) X dX10_pair_153 rfl 0 rfl ?_
    refine j_get (pc := 154) X 10 i_X10 0 rfl rfl 8 (by decide) (by decide +kernel) rfl dX10_pair_154 ?_
    refine j_icmpN_ge (pc := 157) X (a := b) (b := be) (by omega) (by omega) (tgt := 183) dX10_pair_157 (by decide) (fun c_157 => ?_) (fun c_157 => ?_)
    · skip
      refine j_iload_n (pc := 183) X dX10_pair_183 rfl 1 rfl ?_
      exact j_iret (pc := 184) X dX10_pair_184 ⟨by rw [show b = be by omega], rfl⟩
    · skip
      refine j_iload_n (pc := 160) X dX10_pair_160 rfl 1 rfl ?_
      refine j_aload_n (pc := 161) X dX10_pair_161 rfl 0 rfl ?_
      refine j_get (pc := 162) X 10 i_X10 0 rfl rfl 14 (by decide) (by decide +kernel) rfl dX10_pair_162 ?_
      refine j_iload_n (pc := 165) X dX10_pair_165 rfl 2 rfl ?_
      refine j_iald (pc := 166) X 5 rfl (vp_in_nI (by omega) (by decide)) (v := oI (((mWh pl le lb br el be 200 (pIni be gi ak)).1) b)) (congrArg (oF ((mWh pl le lb br el be 200 (pIni be gi ak)).1)) (nI_clamp (by omega))) dX10_pair_166 ?_
      refine j_ifO_lt (pc := 167) X (a := (((mWh pl le lb br el be 200 (pIni be gi ak)).1) b)) (by exact (hokf.1 _).big (by decide)) (tgt := 174) dX10_pair_167 (by decide) (fun c_167 => ?_) (fun c_167 => ?_)
      · skip
        refine j_iconst (pc := 174) X (v := nI 0) dX10_pair_174 (by decide) ?_
        refine j_iadd (pc := 175) X dX10_pair_175 ?_
        refine j_topi (z := nI (cntS (mWh pl le lb br el be 200 (pIni be gi ak)).1 b + 0)) (nI_add _ _) ?_
        refine j_istore_n (pc := 176) X (lv' := [(2, .int (nI (cntS (mWh pl le lb br el be 200 (pIni be gi ak)).1 b + 0))), (0, .ref z), (3, .int (nI b))]) dX10_pair_176 rfl (by decide) rfl ?_
        refine j_iinc (pc := 177) X (v := nI (b + 1)) (lv' := [(3, .int (nI (b + 1))), (2, .int (nI (cntS (mWh pl le lb br el be 200 (pIni be gi ak)).1 b + 0))), (0, .ref z)]) dX10_pair_177 2 rfl (nI_1 _) (by decide) rfl ?_
        refine j_goto (pc := 180) X (tgt := 152) dX10_pair_180 (by decide) ?_
        refine j_lv [2, 1, 0] (lv' := [(0, .ref z), (2, .int (nI (cntS (mWh pl le lb br el be 200 (pIni be gi ak)).1 b + 0))), (3, .int (nI (b + 1)))]) rfl ?_
        refine j_lvq (lv' := [(0, .ref z), (2, .int (nI (cntS (mWh pl le lb br el be 200 (pIni be gi ak)).1 (b + 1)))), (3, .int (nI (b + 1)))]) ?_ ?_
        · rw [show (cntS (mWh pl le lb br el be 200 (pIni be gi ak)).1 b + 0) = cntS (mWh pl le lb br el be 200 (pIni be gi ak)).1 (b + 1) from by (simp only [cntS]; simp [c_157, c_167])]
        exact ih (b + 1) (by omega) (hokf) (by omega)
      · skip
        refine j_iconst (pc := 170) X (v := nI 1) dX10_pair_170 (by decide) ?_
        refine j_goto (pc := 171) X (tgt := 175) dX10_pair_171 (by decide) ?_
        refine j_iadd (pc := 175) X dX10_pair_175 ?_
        refine j_topi (z := nI (cntS (mWh pl le lb br el be 200 (pIni be gi ak)).1 b + 1)) (nI_add _ _) ?_
        refine j_istore_n (pc := 176) X (lv' := [(2, .int (nI (cntS (mWh pl le lb br el be 200 (pIni be gi ak)).1 b + 1))), (0, .ref z), (3, .int (nI b))]) dX10_pair_176 rfl (by decide) rfl ?_
        refine j_iinc (pc := 177) X (v := nI (b + 1)) (lv' := [(3, .int (nI (b + 1))), (2, .int (nI (cntS (mWh pl le lb br el be 200 (pIni be gi ak)).1 b + 1))), (0, .ref z)]) dX10_pair_177 2 rfl (nI_1 _) (by decide) rfl ?_
        refine j_goto (pc := 180) X (tgt := 152) dX10_pair_180 (by decide) ?_
        refine j_lv [2, 1, 0] (lv' := [(0, .ref z), (2, .int (nI (cntS (mWh pl le lb br el be 200 (pIni be gi ak)).1 b + 1))), (3, .int (nI (b + 1)))]) rfl ?_
        refine j_lvq (lv' := [(0, .ref z), (2, .int (nI (cntS (mWh pl le lb br el be 200 (pIni be gi ak)).1 (b + 1)))), (3, .int (nI (b + 1)))]) ?_ ?_
        · rw [show (cntS (mWh pl le lb br el be 200 (pIni be gi ak)).1 b + 1) = cntS (mWh pl le lb br el be 200 (pIni be gi ak)).1 (b + 1) from by (simp only [cntS]; simp [c_157, c_167])]
        exact ih (b + 1) (by omega) (hokf) (by omega)
set_option maxHeartbeats 4000000 in
set_option maxRecDepth 100000 in
theorem mX10_pair_L42 (l : Launch) (G : jG) (z : Nat) (z4 : Nat) (z5 : Nat) (z6 : Nat) (z9 : Nat) (z10 : Nat) (z11 : Nat) (z12 : Nat) (z14 : Nat) (z15 : Nat) (z16 : Nat) (z19 : Nat) (z20 : Nat) (z21 : Nat) (z22 : Nat) (z23 : Nat) (z25 : Nat) (z26 : Nat) (z27 : Nat) (z28 : Nat) (z30 : Nat) (z31 : Nat) (z32 : Nat) (st : Nat) (th : Nat) (za : Int64) (zb : Int64) (el : Nat) (be : Nat) (gz : Bool) (mm : Nat) (tt : Nat) (gm : Nat) (rn : Nat) (le : Nat → Nat) (lb : Nat → Nat) (br : Nat → Bool) (pl : Nat → Nat) (gi : Nat → Option Nat) (ak : Nat → Nat) (hel : el ≤ 12) (hbe : be ≤ 16) (hle : ∀ k, le k ≤ 100) (hlb : ∀ k, lb k ≤ 100) (hpl : ∀ k, pl k ≤ 4) (hgi : ∀ k, ob 12 (gi k)) (hak : ∀ k, ak k ≤ 12) (κ : jK) (X : CX κ l yX10_pair cX10_pair 4 RX10 wsX10_pair (some .int) ({ frames := 3, cells := 0, slots := 0, locals := 72 }) G (va_A [(z, .inr (10, [.int (nI st), .int (nI th), .long za, .long zb, .ref z4, .ref z5, .ref z6, .int (nI el), .int (nI be), .ref z9, .ref z10, .ref z11, .ref z12, .int (b2i gz), .ref z14, .ref z15, .ref z16, .int (nI mm), .int (nI tt), .ref z19, .ref z20, .ref z21, .ref z22, .ref z23, .int (nI gm), .ref z25, .ref z26, .ref z27, .ref z28, .int (nI rn), .ref z30, .ref z31, .ref z32])), kI G z10 192 (nF le), kI G z11 192 (nF lb), kZ G z12 192 (bF br), kI G z9 12 (nF pl), kI G z14 16 (oF gi), kI G z15 16 (nF ak)] (js κ).heap.size))    : ∀ (fu : Nat) (mr : Bool) (g1 : Nat → Option Nat) (a1 : Nat → Nat) (f : Nat) (hok : pOk (g1, a1)) (hmr : mr = true → pot a1 be < f ∧ mWh pl le lb br el be f (g1, a1) = mWh pl le lb br el be 200 (pIni be gi ak)) (hmf : mr = false → (g1, a1) = mWh pl le lb br el be 200 (pIni be gi ak)) (_ : f < fu), JJ κ 4 G (va_A [(z, .inr (10, [.int (nI st), .int (nI th), .long za, .long zb, .ref z4, .ref z5, .ref z6, .int (nI el), .int (nI be), .ref z9, .ref z10, .ref z11, .ref z12, .int (b2i gz), .ref z14, .ref z15, .ref z16, .int (nI mm), .int (nI tt), .ref z19, .ref z20, .ref z21, .ref z22, .ref z23, .int (nI gm), .ref z25, .ref z26, .ref z27, .ref z28, .int (nI rn), .ref z30, .ref z31, .ref z32])), kI G z10 192 (nF le), kI G z11 192 (nF lb), kZ G z12 192 (bF br), kI G z9 12 (nF pl), kI G z14 16 (oF gi), kI G z15 16 (nF ak)] (js κ).heap.size) 0 0 (jQ κ G [(z, .inr (10, [.int (nI st), .int (nI th), .long za, .long zb, .ref z4, .ref z5, .ref z6, .int (nI el), .int (nI be), .ref z9, .ref z10, .ref z11, .ref z12, .int (b2i gz), .ref z14, .ref z15, .ref z16, .int (nI mm), .int (nI tt), .ref z19, .ref z20, .ref z21, .ref z22, .ref z23, .int (nI gm), .ref z25, .ref z26, .ref z27, .ref z28, .int (nI rn), .ref z30, .ref z31, .ref z32])), kI G z10 192 (nF le), kI G z11 192 (nF lb), kZ G z12 192 (bF br), kI G z9 12 (nF pl), kI G z14 16 (oF gi), kI G z15 16 (nF ak)] (fun r w' => r = some (.int (nI (cntS (mWh pl le lb br el be 200 (pIni be gi ak)).1 be))) ∧ w' = [(z, .inr (10, [.int (nI 0), .int (nI 0), .long za, .long zb, .ref z4, .ref z5, .ref z6, .int (nI el), .int (nI be), .ref z9, .ref z10, .ref z11, .ref z12, .int (b2i true), .ref z14, .ref z15, .ref z16, .int (nI mm), .int (nI tt), .ref z19, .ref z20, .ref z21, .ref z22, .ref z23, .int (nI gm), .ref z25, .ref z26, .ref z27, .ref z28, .int (nI rn), .ref z30, .ref z31, .ref z32])), kI G z10 192 (nF le), kI G z11 192 (nF lb), kZ G z12 192 (bF br), kI G z9 12 (nF pl), kI G z14 16 (oF ((mWh pl le lb br el be 200 (pIni be gi ak)).1)), kI G z15 16 (nF ((mWh pl le lb br el be 200 (pIni be gi ak)).2))]) 0 0) 42 [(0, .ref z), (1, .int (b2i mr))] [] [(z, .inr (10, [.int (nI 0), .int (nI 0), .long za, .long zb, .ref z4, .ref z5, .ref z6, .int (nI el), .int (nI be), .ref z9, .ref z10, .ref z11, .ref z12, .int (b2i gz), .ref z14, .ref z15, .ref z16, .int (nI mm), .int (nI tt), .ref z19, .ref z20, .ref z21, .ref z22, .ref z23, .int (nI gm), .ref z25, .ref z26, .ref z27, .ref z28, .int (nI rn), .ref z30, .ref z31, .ref z32])), kI G z10 192 (nF le), kI G z11 192 (nF lb), kZ G z12 192 (bF br), kI G z9 12 (nF pl), kI G z14 16 (oF g1), kI G z15 16 (nF a1)] := by
  have i_X10 : ∀ w ∈ wsX100, w ∈ wsX10_pair := by decide +kernel
  intro fu
  induction fu with
  | zero => intro mr g1 a1 f hok hmr hmf hms; exact absurd hms (Nat.not_lt_zero _)
  | succ fu ih =>
    intro mr g1 a1 f hok hmr hmf hms
    refine j_iload_n (pc := 42) X dX10_pair_42 rfl 1 rfl ?_
    refine j_ifb_eq (pc := 43) X (B := mr) (tgt := 143) dX10_pair_43 (by decide) (fun c_43 => ?_) (fun c_43 => ?_)
    · skip
      have hfin := hmf c_43
      refine j_aload_n (pc := 143) X dX10_pair_143 rfl 0 rfl ?_
      refine j_iconst (pc := 144) X (v := nI 1) dX10_pair_144 (by decide) ?_
      refine j_put (pc := 145) X (v := .int (nI 1)) (ws' := [(z, .inr (10, [.int (nI 0), .int (nI 0), .long za, .long zb, .ref z4, .ref z5, .ref z6, .int (nI el), .int (nI be), .ref z9, .ref z10, .ref z11, .ref z12, .int (b2i true), .ref z14, .ref z15, .ref z16, .int (nI mm), .int (nI tt), .ref z19, .ref z20, .ref z21, .ref z22, .ref z23, .int (nI gm), .ref z25, .ref z26, .ref z27, .ref z28, .int (nI rn), .ref z30, .ref z31, .ref z32])), kI G z10 192 (nF le), kI G z11 192 (nF lb), kZ G z12 192 (bF br), kI G z9 12 (nF pl), kI G z14 16 (oF g1), kI G z15 16 (nF a1)]) 10 i_X10 tyX10 tyX10_ok nmX10 0 rfl rfl 13 (by decide) (by decide +kernel) (by decide) (rfl) (rfl) (Nat.le_of_ble_eq_true rfl) dX10_pair_145 rfl ?_
      refine j_iconst (pc := 148) X (v := nI 0) dX10_pair_148 (by decide) ?_
      refine j_istore_n (pc := 149) X (lv' := [(2, .int (nI 0)), (0, .ref z), (1, .int (b2i mr))]) dX10_pair_149 rfl (by decide) rfl ?_
      refine j_iconst (pc := 150) X (v := nI 0) dX10_pair_150 (by decide) ?_
      refine j_istore_n (pc := 151) X (lv' := [(3, .int (nI 0)), (2, .int (nI 0)), (0, .ref z), (1, .int (b2i mr))]) dX10_pair_151 rfl (by decide) rfl ?_
      refine j_lv [2, 1, 0] (lv' := [(0, .ref z), (2, .int (nI 0)), (3, .int (nI 0))]) rfl ?_
      refine j_lvq (lv' := [(0, .ref z), (2, .int (nI (cntS (mWh pl le lb br el be 200 (pIni be gi ak)).1 0))), (3, .int (nI 0))]) ?_ ?_
      · (first | rfl | (rw [← hfin]))
      refine j_ws (ws' := [(z, .inr (10, [.int (nI 0), .int (nI 0), .long za, .long zb, .ref z4, .ref z5, .ref z6, .int (nI el), .int (nI be), .ref z9, .ref z10, .ref z11, .ref z12, .int (b2i true), .ref z14, .ref z15, .ref z16, .int (nI mm), .int (nI tt), .ref z19, .ref z20, .ref z21, .ref z22, .ref z23, .int (nI gm), .ref z25, .ref z26, .ref z27, .ref z28, .int (nI rn), .ref z30, .ref z31, .ref z32])), kI G z10 192 (nF le), kI G z11 192 (nF lb), kZ G z12 192 (bF br), kI G z9 12 (nF pl), kI G z14 16 (oF ((mWh pl le lb br el be 200 (pIni be gi ak)).1)), kI G z15 16 (nF ((mWh pl le lb br el be 200 (pIni be gi ak)).2))]) ?_ ?_
      · (first | rfl | (rw [← hfin]))
      exact mX10_pair_L152 l G z z4 z5 z6 z9 z10 z11 z12 z14 z15 z16 z19 z20 z21 z22 z23 z25 z26 z27 z28 z30 z31 z32 st th za zb el be gz mm tt gm rn le lb br pl gi ak hel hbe hle hlb hpl hgi hak κ X    (be - 0 + 1) 0 (by omega) (by rw [← hfin]; exact hok) (Nat.lt_succ_self _)
    · skip
      refine j_iconst (pc := 46) X (v := nI 0) dX10_pair_46 (by decide) ?_
      refine j_istore_n (pc := 47) X (lv' := [(1, .int (nI 0)), (0, .ref z)]) dX10_pair_47 rfl (by decide) rfl ?_
      refine j_iconst (pc := 48) X (v := nI 0) dX10_pair_48 (by decide) ?_
      refine j_istore_n (pc := 49) X (lv' := [(2, .int (nI 0)), (1, .int (nI 0)), (0, .ref z)]) dX10_pair_49 rfl (by decide) rfl ?_
      refine j_lv [2, 1, 0] (lv' := [(0, .ref z), (1, .int (nI 0)), (2, .int (nI 0))]) rfl ?_
      refine j_lvq (lv' := [(0, .ref z), (1, .int (b2i false)), (2, .int (nI 0))]) rfl ?_
      exact mX10_pair_L50 l G z z4 z5 z6 z9 z10 z11 z12 z14 z15 z16 z19 z20 z21 z22 z23 z25 z26 z27 z28 z30 z31 z32 st th za zb el be gz mm tt gm rn le lb br pl gi ak hel hbe hle hlb hpl hgi hak κ X fu ih mr g1 a1 f hok hmr hmf hms (be - 0 + 1) 0 false g1 a1 (by omega) (by rfl) (c_43) (Nat.lt_succ_self _)
set_option maxHeartbeats 4000000 in
set_option maxRecDepth 100000 in
theorem mX10_pair_L12 (l : Launch) (G : jG) (z : Nat) (z4 : Nat) (z5 : Nat) (z6 : Nat) (z9 : Nat) (z10 : Nat) (z11 : Nat) (z12 : Nat) (z14 : Nat) (z15 : Nat) (z16 : Nat) (z19 : Nat) (z20 : Nat) (z21 : Nat) (z22 : Nat) (z23 : Nat) (z25 : Nat) (z26 : Nat) (z27 : Nat) (z28 : Nat) (z30 : Nat) (z31 : Nat) (z32 : Nat) (st : Nat) (th : Nat) (za : Int64) (zb : Int64) (el : Nat) (be : Nat) (gz : Bool) (mm : Nat) (tt : Nat) (gm : Nat) (rn : Nat) (le : Nat → Nat) (lb : Nat → Nat) (br : Nat → Bool) (pl : Nat → Nat) (gi : Nat → Option Nat) (ak : Nat → Nat) (hel : el ≤ 12) (hbe : be ≤ 16) (hle : ∀ k, le k ≤ 100) (hlb : ∀ k, lb k ≤ 100) (hpl : ∀ k, pl k ≤ 4) (hgi : ∀ k, ob 12 (gi k)) (hak : ∀ k, ak k ≤ 12) (κ : jK) (X : CX κ l yX10_pair cX10_pair 4 RX10 wsX10_pair (some .int) ({ frames := 3, cells := 0, slots := 0, locals := 72 }) G (va_A [(z, .inr (10, [.int (nI st), .int (nI th), .long za, .long zb, .ref z4, .ref z5, .ref z6, .int (nI el), .int (nI be), .ref z9, .ref z10, .ref z11, .ref z12, .int (b2i gz), .ref z14, .ref z15, .ref z16, .int (nI mm), .int (nI tt), .ref z19, .ref z20, .ref z21, .ref z22, .ref z23, .int (nI gm), .ref z25, .ref z26, .ref z27, .ref z28, .int (nI rn), .ref z30, .ref z31, .ref z32])), kI G z10 192 (nF le), kI G z11 192 (nF lb), kZ G z12 192 (bF br), kI G z9 12 (nF pl), kI G z14 16 (oF gi), kI G z15 16 (nF ak)] (js κ).heap.size))    : ∀ (fu : Nat) (b : Nat) (hb : b ≤ be) (_ : be - b < fu), JJ κ 4 G (va_A [(z, .inr (10, [.int (nI st), .int (nI th), .long za, .long zb, .ref z4, .ref z5, .ref z6, .int (nI el), .int (nI be), .ref z9, .ref z10, .ref z11, .ref z12, .int (b2i gz), .ref z14, .ref z15, .ref z16, .int (nI mm), .int (nI tt), .ref z19, .ref z20, .ref z21, .ref z22, .ref z23, .int (nI gm), .ref z25, .ref z26, .ref z27, .ref z28, .int (nI rn), .ref z30, .ref z31, .ref z32])), kI G z10 192 (nF le), kI G z11 192 (nF lb), kZ G z12 192 (bF br), kI G z9 12 (nF pl), kI G z14 16 (oF gi), kI G z15 16 (nF ak)] (js κ).heap.size) 0 0 (jQ κ G [(z, .inr (10, [.int (nI st), .int (nI th), .long za, .long zb, .ref z4, .ref z5, .ref z6, .int (nI el), .int (nI be), .ref z9, .ref z10, .ref z11, .ref z12, .int (b2i gz), .ref z14, .ref z15, .ref z16, .int (nI mm), .int (nI tt), .ref z19, .ref z20, .ref z21, .ref z22, .ref z23, .int (nI gm), .ref z25, .ref z26, .ref z27, .ref z28, .int (nI rn), .ref z30, .ref z31, .ref z32])), kI G z10 192 (nF le), kI G z11 192 (nF lb), kZ G z12 192 (bF br), kI G z9 12 (nF pl), kI G z14 16 (oF gi), kI G z15 16 (nF ak)] (fun r w' => r = some (.int (nI (cntS (mWh pl le lb br el be 200 (pIni be gi ak)).1 be))) ∧ w' = [(z, .inr (10, [.int (nI 0), .int (nI 0), .long za, .long zb, .ref z4, .ref z5, .ref z6, .int (nI el), .int (nI be), .ref z9, .ref z10, .ref z11, .ref z12, .int (b2i true), .ref z14, .ref z15, .ref z16, .int (nI mm), .int (nI tt), .ref z19, .ref z20, .ref z21, .ref z22, .ref z23, .int (nI gm), .ref z25, .ref z26, .ref z27, .ref z28, .int (nI rn), .ref z30, .ref z31, .ref z32])), kI G z10 192 (nF le), kI G z11 192 (nF lb), kZ G z12 192 (bF br), kI G z9 12 (nF pl), kI G z14 16 (oF ((mWh pl le lb br el be 200 (pIni be gi ak)).1)), kI G z15 16 (nF ((mWh pl le lb br el be 200 (pIni be gi ak)).2))]) 0 0) 12 [(0, .ref z), (1, .int (nI b))] [] [(z, .inr (10, [.int (nI 0), .int (nI 0), .long za, .long zb, .ref z4, .ref z5, .ref z6, .int (nI el), .int (nI be), .ref z9, .ref z10, .ref z11, .ref z12, .int (b2i gz), .ref z14, .ref z15, .ref z16, .int (nI mm), .int (nI tt), .ref z19, .ref z20, .ref z21, .ref z22, .ref z23, .int (nI gm), .ref z25, .ref z26, .ref z27, .ref z28, .int (nI rn), .ref z30, .ref z31, .ref z32])), kI G z10 192 (nF le), kI G z11 192 (nF lb), kZ G z12 192 (bF br), kI G z9 12 (nF pl), kI G z14 16 (oF (fil none gi b)), kI G z15 16 (nF (fil 0 ak b))] := by
  have i_X10 : ∀ w ∈ wsX100, w ∈ wsX10_pair := by decide +kernel
  intro fu
  induction fu with
  | zero => intro b hb hms; exact absurd hms (Nat.not_lt_zero _)
  | succ fu ih =>
    intro b hb hms
    refine j_iload_n (pc := 12) X dX10_pair_12 rfl 1 rfl ?_
    refine j_aload_n (pc := 13) X dX10_pair_13 rfl 0 rfl ?_
    refine j_get (pc := 14) X 10 i_X10 0 rfl rfl 8 (by decide) (by decide +kernel) rfl dX10_pair_14 ?_
    refine j_icmpN_ge (pc := 17) X (a := b) (b := be) (by omega) (by omega) (tgt := 40) dX10_pair_17 (by decide) (fun c_17 => ?_) (fun c_17 => ?_)
    · skip
      obtain rfl : be = b := by omega
      refine j_iconst (pc := 40) X (v := nI 1) dX10_pair_40 (by decide) ?_
      refine j_istore_n (pc := 41) X (lv' := [(1, .int (nI 1)), (0, .ref z)]) dX10_pair_41 rfl (by decide) rfl ?_
      refine j_lv [1, 0] (lv' := [(0, .ref z), (1, .int (nI 1))]) rfl ?_
      refine j_lvq (lv' := [(0, .ref z), (1, .int (b2i true))]) rfl ?_
      exact mX10_pair_L42 l G z z4 z5 z6 z9 z10 z11 z12 z14 z15 z16 z19 z20 z21 z22 z23 z25 z26 z27 z28 z30 z31 z32 st th za zb el be gz mm tt gm rn le lb br pl gi ak hel hbe hle hlb hpl hgi hak κ X    (200 + 1) true (fil none gi be) (fil 0 ak be) 200 (⟨fun k => (by simp only [pIni, fil]; split; exact ob_n; exact hgi k), fun k => (by simp only [pIni, fil]; split; omega; exact hak k)⟩) (fun _ => ⟨(by rw [pot_ini be (Nat.le_refl _)]; omega), rfl⟩) (by intro h9; cases h9) (Nat.lt_succ_self _)
    · skip
      refine j_aload_n (pc := 20) X dX10_pair_20 rfl 0 rfl ?_
      refine j_get (pc := 21) X 10 i_X10 0 rfl rfl 14 (by decide) (by decide +kernel) rfl dX10_pair_21 ?_
      refine j_iload_n (pc := 24) X dX10_pair_24 rfl 1 rfl ?_
      refine j_iconst (pc := 25) X (v := oI none) dX10_pair_25 (by decide) ?_
      refine j_iast (pc := 26) X (f2 := (oF (va_up (fil none gi b) b none))) (ws' := [(z, .inr (10, [.int (nI 0), .int (nI 0), .long za, .long zb, .ref z4, .ref z5, .ref z6, .int (nI el), .int (nI be), .ref z9, .ref z10, .ref z11, .ref z12, .int (b2i gz), .ref z14, .ref z15, .ref z16, .int (nI mm), .int (nI tt), .ref z19, .ref z20, .ref z21, .ref z22, .ref z23, .int (nI gm), .ref z25, .ref z26, .ref z27, .ref z28, .int (nI rn), .ref z30, .ref z31, .ref z32])), kI G z10 192 (nF le), kI G z11 192 (nF lb), kZ G z12 192 (bF br), kI G z9 12 (nF pl), kI G z14 16 (oF (va_up (fil none gi b) b none)), kI G z15 16 (nF (fil 0 ak b))]) 5 rfl (vp_in_nI (by omega) (by decide)) dX10_pair_26 (by rw [nI_clamp (by omega)]; exact oF_up (fil none gi b) b none) rfl ?_
      refine j_aload_n (pc := 27) X dX10_pair_27 rfl 0 rfl ?_
      refine j_get (pc := 28) X 10 i_X10 0 rfl rfl 15 (by decide) (by decide +kernel) rfl dX10_pair_28 ?_
      refine j_iload_n (pc := 31) X dX10_pair_31 rfl 1 rfl ?_
      refine j_iconst (pc := 32) X (v := nI 0) dX10_pair_32 (by decide) ?_
      refine j_iast (pc := 33) X (f2 := (nF (va_up (fil 0 ak b) b 0))) (ws' := [(z, .inr (10, [.int (nI 0), .int (nI 0), .long za, .long zb, .ref z4, .ref z5, .ref z6, .int (nI el), .int (nI be), .ref z9, .ref z10, .ref z11, .ref z12, .int (b2i gz), .ref z14, .ref z15, .ref z16, .int (nI mm), .int (nI tt), .ref z19, .ref z20, .ref z21, .ref z22, .ref z23, .int (nI gm), .ref z25, .ref z26, .ref z27, .ref z28, .int (nI rn), .ref z30, .ref z31, .ref z32])), kI G z10 192 (nF le), kI G z11 192 (nF lb), kZ G z12 192 (bF br), kI G z9 12 (nF pl), kI G z14 16 (oF (va_up (fil none gi b) b none)), kI G z15 16 (nF (va_up (fil 0 ak b) b 0))]) 6 rfl (vp_in_nI (by omega) (by decide)) dX10_pair_33 (by rw [nI_clamp (by omega)]; exact nF_up (fil 0 ak b) b 0) rfl ?_
      refine j_iinc (pc := 34) X (v := nI (b + 1)) (lv' := [(1, .int (nI (b + 1))), (0, .ref z)]) dX10_pair_34 1 rfl (nI_1 _) (by decide) rfl ?_
      refine j_goto (pc := 37) X (tgt := 12) dX10_pair_37 (by decide) ?_
      refine j_lv [1, 0] (lv' := [(0, .ref z), (1, .int (nI (b + 1)))]) rfl ?_
      refine j_ws (ws' := [(z, .inr (10, [.int (nI 0), .int (nI 0), .long za, .long zb, .ref z4, .ref z5, .ref z6, .int (nI el), .int (nI be), .ref z9, .ref z10, .ref z11, .ref z12, .int (b2i gz), .ref z14, .ref z15, .ref z16, .int (nI mm), .int (nI tt), .ref z19, .ref z20, .ref z21, .ref z22, .ref z23, .int (nI gm), .ref z25, .ref z26, .ref z27, .ref z28, .int (nI rn), .ref z30, .ref z31, .ref z32])), kI G z10 192 (nF le), kI G z11 192 (nF lb), kZ G z12 192 (bF br), kI G z9 12 (nF pl), kI G z14 16 (oF (fil none gi (b + 1))), kI G z15 16 (nF (fil 0 ak (b + 1)))]) ?_ ?_
      · (rw [fil_s, fil_s])
      exact ih (b + 1) (by omega) (by omega)
set_option maxHeartbeats 4000000 in
set_option maxRecDepth 100000 in
theorem mX10_pair (l : Launch) (G : jG) (z : Nat) (z4 : Nat) (z5 : Nat) (z6 : Nat) (z9 : Nat) (z10 : Nat) (z11 : Nat) (z12 : Nat) (z14 : Nat) (z15 : Nat) (z16 : Nat) (z19 : Nat) (z20 : Nat) (z21 : Nat) (z22 : Nat) (z23 : Nat) (z25 : Nat) (z26 : Nat) (z27 : Nat) (z28 : Nat) (z30 : Nat) (z31 : Nat) (z32 : Nat) (st : Nat) (th : Nat) (za : Int64) (zb : Int64) (el : Nat) (be : Nat) (gz : Bool) (mm : Nat) (tt : Nat) (gm : Nat) (rn : Nat) (le : Nat → Nat) (lb : Nat → Nat) (br : Nat → Bool) (pl : Nat → Nat) (gi : Nat → Option Nat) (ak : Nat → Nat) (hel : el ≤ 12) (hbe : be ≤ 16) (hle : ∀ k, le k ≤ 100) (hlb : ∀ k, lb k ≤ 100) (hpl : ∀ k, pl k ≤ 4) (hgi : ∀ k, ob 12 (gi k)) (hak : ∀ k, ak k ≤ 12) : MV l yX10_pair wsX10_pair ({ frames := 3, cells := 0, slots := 0, locals := 72 }) G [.ref z] [(z, .inr (10, [.int (nI st), .int (nI th), .long za, .long zb, .ref z4, .ref z5, .ref z6, .int (nI el), .int (nI be), .ref z9, .ref z10, .ref z11, .ref z12, .int (b2i gz), .ref z14, .ref z15, .ref z16, .int (nI mm), .int (nI tt), .ref z19, .ref z20, .ref z21, .ref z22, .ref z23, .int (nI gm), .ref z25, .ref z26, .ref z27, .ref z28, .int (nI rn), .ref z30, .ref z31, .ref z32])), kI G z10 192 (nF le), kI G z11 192 (nF lb), kZ G z12 192 (bF br), kI G z9 12 (nF pl), kI G z14 16 (oF gi), kI G z15 16 (nF ak)] (some (.int (nI (cntS (mWh pl le lb br el be 200 (pIni be gi ak)).1 be)))) [(z, .inr (10, [.int (nI 0), .int (nI 0), .long za, .long zb, .ref z4, .ref z5, .ref z6, .int (nI el), .int (nI be), .ref z9, .ref z10, .ref z11, .ref z12, .int (b2i true), .ref z14, .ref z15, .ref z16, .int (nI mm), .int (nI tt), .ref z19, .ref z20, .ref z21, .ref z22, .ref z23, .int (nI gm), .ref z25, .ref z26, .ref z27, .ref z28, .int (nI rn), .ref z30, .ref z31, .ref z32])), kI G z10 192 (nF le), kI G z11 192 (nF lb), kZ G z12 192 (bF br), kI G z9 12 (nF pl), kI G z14 16 (oF ((mWh pl le lb br el be 200 (pIni be gi ak)).1)), kI G z15 16 (nF ((mWh pl le lb br el be 200 (pIni be gi ak)).2))] := by
  refine MF.ofJ (cc := cX10_pair) (maxL := 4) (ret := (some .int)) (own := RX10) (lv := [(0, .ref z)]) (by decide) rfl rfl (Nat.le_of_ble_eq_true rfl) rfl ?_
  intro κ X
  have i_X10 : ∀ w ∈ wsX100, w ∈ wsX10_pair := by decide +kernel
  refine j_aload_n (pc := 0) X dX10_pair_0 rfl 0 rfl ?_
  refine j_iconst (pc := 1) X (v := nI 0) dX10_pair_1 (by decide) ?_
  refine j_put (pc := 2) X (v := .int (nI 0)) (ws' := [(z, .inr (10, [.int (nI st), .int (nI 0), .long za, .long zb, .ref z4, .ref z5, .ref z6, .int (nI el), .int (nI be), .ref z9, .ref z10, .ref z11, .ref z12, .int (b2i gz), .ref z14, .ref z15, .ref z16, .int (nI mm), .int (nI tt), .ref z19, .ref z20, .ref z21, .ref z22, .ref z23, .int (nI gm), .ref z25, .ref z26, .ref z27, .ref z28, .int (nI rn), .ref z30, .ref z31, .ref z32])), kI G z10 192 (nF le), kI G z11 192 (nF lb), kZ G z12 192 (bF br), kI G z9 12 (nF pl), kI G z14 16 (oF gi), kI G z15 16 (nF ak)]) 10 i_X10 tyX10 tyX10_ok nmX10 0 rfl rfl 1 (by decide) (by decide +kernel) (by decide) (rfl) (rfl) (Nat.le_of_ble_eq_true rfl) dX10_pair_2 rfl ?_
  refine j_aload_n (pc := 5) X dX10_pair_5 rfl 0 rfl ?_
  refine j_iconst (pc := 6) X (v := nI 0) dX10_pair_6 (by decide) ?_
  refine j_put (pc := 7) X (v := .int (nI 0)) (ws' := [(z, .inr (10, [.int (nI 0), .int (nI 0), .long za, .long zb, .ref z4, .ref z5, .ref z6, .int (nI el), .int (nI be), .ref z9, .ref z10, .ref z11, .ref z12, .int (b2i gz), .ref z14, .ref z15, .ref z16, .int (nI mm), .int (nI tt), .ref z19, .ref z20, .ref z21, .ref z22, .ref z23, .int (nI gm), .ref z25, .ref z26, .ref z27, .ref z28, .int (nI rn), .ref z30, .ref z31, .ref z32])), kI G z10 192 (nF le), kI G z11 192 (nF lb), kZ G z12 192 (bF br), kI G z9 12 (nF pl), kI G z14 16 (oF gi), kI G z15 16 (nF ak)]) 10 i_X10 tyX10 tyX10_ok nmX10 0 rfl rfl 0 (by decide) (by decide +kernel) (by decide) (rfl) (rfl) (Nat.le_of_ble_eq_true rfl) dX10_pair_7 rfl ?_
  refine j_iconst (pc := 10) X (v := nI 0) dX10_pair_10 (by decide) ?_
  refine j_istore_n (pc := 11) X (lv' := [(1, .int (nI 0)), (0, .ref z)]) dX10_pair_11 rfl (by decide) rfl ?_
  refine j_lv [1, 0] (lv' := [(0, .ref z), (1, .int (nI 0))]) rfl ?_
  refine j_ws (ws' := [(z, .inr (10, [.int (nI 0), .int (nI 0), .long za, .long zb, .ref z4, .ref z5, .ref z6, .int (nI el), .int (nI be), .ref z9, .ref z10, .ref z11, .ref z12, .int (b2i gz), .ref z14, .ref z15, .ref z16, .int (nI mm), .int (nI tt), .ref z19, .ref z20, .ref z21, .ref z22, .ref z23, .int (nI gm), .ref z25, .ref z26, .ref z27, .ref z28, .int (nI rn), .ref z30, .ref z31, .ref z32])), kI G z10 192 (nF le), kI G z11 192 (nF lb), kZ G z12 192 (bF br), kI G z9 12 (nF pl), kI G z14 16 (oF (fil none gi 0)), kI G z15 16 (nF (fil 0 ak 0))]) ?_ ?_
  · (rw [fil_0, fil_0])
  exact mX10_pair_L12 l G z z4 z5 z6 z9 z10 z11 z12 z14 z15 z16 z19 z20 z21 z22 z23 z25 z26 z27 z28 z30 z31 z32 st th za zb el be gz mm tt gm rn le lb br pl gi ak hel hbe hle hlb hpl hgi hak κ X    (be - 0 + 1) 0 (by omega) (Nat.lt_succ_self _)

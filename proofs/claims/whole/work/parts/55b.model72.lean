set_option maxHeartbeats 4000000 in
set_option maxRecDepth 100000 in
theorem mX10_countSteps_L100 (l : Launch) (G : jG) (z : Nat) (z4 : Nat) (z5 : Nat) (z6 : Nat) (z9 : Nat) (z10 : Nat) (z11 : Nat) (z12 : Nat) (z14 : Nat) (z15 : Nat) (z16 : Nat) (z19 : Nat) (z20 : Nat) (z21 : Nat) (z22 : Nat) (z23 : Nat) (z25 : Nat) (z26 : Nat) (z27 : Nat) (z28 : Nat) (z30 : Nat) (z31 : Nat) (z32 : Nat) (st : Nat) (th : Nat) (za : Int64) (zb : Int64) (el : Nat) (be : Nat) (gz : Bool) (mm : Nat) (tt : Nat) (gm : Nat) (rn : Nat) (gi : Nat → Option Nat) (pl : Nat → Nat) (le : Nat → Nat) (lb : Nat → Nat) (br : Nat → Bool) (sp : Nat → Nat) (lf : Nat) (hel : el ≤ 12) (hle : ∀ k, le k ≤ 100) (hlb : ∀ k, lb k ≤ 100) (hgi : ∀ k, ob 12 (gi k)) (hbe : be ≤ 16) (hpl : ∀ k, pl k ≤ 4) (hlf : lf < 12) (hcn : 1 ≤ cntO gi lf be) (hb1 : 1 ≤ be) (κ : jK) {A : Nat → Prop} {Q : State → Prop} (X : CX κ l yX10_countSteps cX10_countSteps 5 RX10 wsX10_countSteps none ({ frames := 2, cells := 0, slots := 0, locals := 45 }) G A) (no90 : Nat) (hK90 : ∀ (j : Nat) (s1 : Nat → Nat) (hj : j + 1 ≤ be) (hs1 : s1 = spN pl le lb br gi el be lf sp j) (_ : be - j < no90), JJ κ 5 G A 0 0 Q 90 [(0, .ref z), (2, .int (nI (j + 2)))] [] [(z, .inr (10, [.int (nI st), .int (nI th), .long za, .long zb, .ref z4, .ref z5, .ref z6, .int (nI el), .int (nI be), .ref z9, .ref z10, .ref z11, .ref z12, .int (b2i gz), .ref z14, .ref z15, .ref z16, .int (nI mm), .int (nI tt), .ref z19, .ref z20, .ref z21, .ref z22, .ref z23, .int (nI gm), .ref z25, .ref z26, .ref z27, .ref z28, .int (nI rn), .ref z30, .ref z31, .ref z32])), kI G z14 16 (oF gi), kI G z9 12 (nF pl), kI G z10 192 (nF le), kI G z11 192 (nF lb), kZ G z12 192 (bF br), kI G z16 16 (nF s1)])  (j : Nat) (s1 : Nat → Nat) (hj : j + 1 ≤ be) (hs1 : s1 = spN pl le lb br gi el be lf sp j) (hm90 : be - j < no90 + 1) : ∀ (fu : Nat) (b : Nat) (hb : b ≤ be) (hjj : j + 2 ≤ be) (_ : be - b < fu), JJ κ 5 G A 0 0 Q 100 [(0, .ref z), (2, .int (nI (j + 2))), (3, .int (nI b))] [] [(z, .inr (10, [.int (nI st), .int (nI th), .long za, .long zb, .ref z4, .ref z5, .ref z6, .int (nI el), .int (nI be), .ref z9, .ref z10, .ref z11, .ref z12, .int (b2i gz), .ref z14, .ref z15, .ref z16, .int (nI mm), .int (nI tt), .ref z19, .ref z20, .ref z21, .ref z22, .ref z23, .int (nI gm), .ref z25, .ref z26, .ref z27, .ref z28, .int (nI rn), .ref z30, .ref z31, .ref z32])), kI G z14 16 (oF gi), kI G z9 12 (nF pl), kI G z10 192 (nF le), kI G z11 192 (nF lb), kZ G z12 192 (bF br), kI G z16 16 (nF (pf (rd2 le lb br gi be s1 j) s1 b))] := by
  have i_X10 : ∀ w ∈ wsX100, w ∈ wsX10_countSteps := by decide +kernel
  intro fu
  induction fu with
  | zero => intro b hb hjj hms; exact absurd hms (Nat.not_lt_zero _)
  | succ fu ih =>
    intro b hb hjj hms
    refine j_iload_n (pc := 100) X dX10_countSteps_100 rfl 2 rfl ?_
    refine j_aload_n (pc := 101) X dX10_countSteps_101 rfl 0 rfl ?_
    refine j_get (pc := 102) X 10 i_X10 0 rfl rfl 8 (by decide) (by decide +kernel) rfl dX10_countSteps_102 ?_
    refine j_icmpN_ge (pc := 105) X (a := b) (b := be) (by first | omega | (have h9 : s1 b ≤ 1000 := (by rw [hs1]; exact sp_le (by omega) (by omega)); omega)) (by first | omega | (have h9 : s1 b ≤ 1000 := (by rw [hs1]; exact sp_le (by omega) (by omega)); omega)) (tgt := 217) dX10_countSteps_105 (by decide) (fun c_105 => ?_) (fun c_105 => ?_)
    · skip
      refine j_iinc (pc := 217) X (v := nI (j + 2 + 1)) (lv' := [(2, .int (nI (j + 2 + 1))), (0, .ref z), (3, .int (nI b))]) dX10_countSteps_217 1 rfl (nI_1 _) (by decide) rfl ?_
      refine j_goto (pc := 220) X (tgt := 90) dX10_countSteps_220 (by decide) ?_
      refine j_lv [1, 0] (lv' := [(0, .ref z), (2, .int (nI (j + 2 + 1)))]) rfl ?_
      refine j_lvq (lv' := [(0, .ref z), (2, .int (nI (j + 1 + 2)))]) ?_ ?_
      · first | rfl | (rw [show (j + 2 + 1) = j + 1 + 2 from by (simp)])
      exact hK90 (j + 1) (pf (rd2 le lb br gi be s1 j) s1 b) (by omega) (by rw [show b = be by omega, hs1]; rfl) (by omega)
    · skip
      refine j_aload_n (pc := 108) X dX10_countSteps_108 rfl 0 rfl ?_
      refine j_get (pc := 109) X 10 i_X10 0 rfl rfl 14 (by decide) (by decide +kernel) rfl dX10_countSteps_109 ?_
      refine j_iload_n (pc := 112) X dX10_countSteps_112 rfl 2 rfl ?_
      refine j_iald (pc := 113) X 1 rfl (vp_in_nI (by omega) (by decide)) (v := oI (gi b)) (congrArg (oF gi) (nI_clamp (by omega))) dX10_countSteps_113 ?_
      refine j_ifO_lt (pc := 114) X (a := (gi b)) (by first | exact ob_n | exact ob_s (by omega) | exact (hgi _).big (by decide)) (tgt := 211) dX10_countSteps_114 (by decide) (fun c_114 => ?_) (fun c_114 => ?_)
      · skip
        refine j_iinc (pc := 211) X (v := nI (b + 1)) (lv' := [(3, .int (nI (b + 1))), (0, .ref z), (2, .int (nI (j + 2)))]) dX10_countSteps_211 2 rfl (nI_1 _) (by decide) rfl ?_
        refine j_goto (pc := 214) X (tgt := 100) dX10_countSteps_214 (by decide) ?_
        refine j_lv [1, 2, 0] (lv' := [(0, .ref z), (2, .int (nI (j + 2))), (3, .int (nI (b + 1)))]) rfl ?_
        refine j_ws (ws' := [(z, .inr (10, [.int (nI st), .int (nI th), .long za, .long zb, .ref z4, .ref z5, .ref z6, .int (nI el), .int (nI be), .ref z9, .ref z10, .ref z11, .ref z12, .int (b2i gz), .ref z14, .ref z15, .ref z16, .int (nI mm), .int (nI tt), .ref z19, .ref z20, .ref z21, .ref z22, .ref z23, .int (nI gm), .ref z25, .ref z26, .ref z27, .ref z28, .int (nI rn), .ref z30, .ref z31, .ref z32])), kI G z14 16 (oF gi), kI G z9 12 (nF pl), kI G z10 192 (nF le), kI G z11 192 (nF lb), kZ G z12 192 (bF br), kI G z16 16 (nF (pf (rd2 le lb br gi be s1 j) s1 (b + 1)))]) ?_ ?_
        · (rw [pf_id (by rw [rd2, if_pos (by first | (simp [c_105, c_114]; done) | exact Or.inr (by omega))])])
        exact ih (b + 1) (by omega) (by omega) (by omega)
      · skip
        refine j_aload_n (pc := 117) X dX10_countSteps_117 rfl 0 rfl ?_
        refine j_get (pc := 118) X 10 i_X10 0 rfl rfl 16 (by decide) (by decide +kernel) rfl dX10_countSteps_118 ?_
        refine j_iload_n (pc := 121) X dX10_countSteps_121 rfl 2 rfl ?_
        refine j_iald (pc := 122) X 6 rfl (vp_in_nI (by omega) (by decide)) (v := nI (s1 b)) ((congrArg (nF (pf (rd2 le lb br gi be s1 j) s1 b)) (nI_clamp (by omega))).trans (congrArg nI (pf_ge (Nat.le_refl _)))) dX10_countSteps_122 ?_
        refine j_sipush (pc := 123) X (v := nI 1000) dX10_countSteps_123 (by decide) ?_
        refine j_icmpN_ge (pc := 126) X (a := (s1 b)) (b := 1000) (by first | omega | (have h9 : s1 b ≤ 1000 := (by rw [hs1]; exact sp_le (by omega) (by omega)); omega)) (by first | omega | (have h9 : s1 b ≤ 1000 := (by rw [hs1]; exact sp_le (by omega) (by omega)); omega)) (tgt := 132) dX10_countSteps_126 (by decide) (fun c_126 => ?_) (fun c_126 => ?_)
        · skip
          refine j_iconst (pc := 132) X (v := nI 0) dX10_countSteps_132 (by decide) ?_
          refine j_istore (pc := 133) X (lv' := [(4, .int (nI 0)), (0, .ref z), (2, .int (nI (j + 2))), (3, .int (nI b))]) dX10_countSteps_133 (by decide) rfl ?_
          refine j_lv [1, 2, 3, 0] (lv' := [(0, .ref z), (2, .int (nI (j + 2))), (3, .int (nI b)), (4, .int (nI 0))]) rfl ?_
          refine j_ws (ws' := [(z, .inr (10, [.int (nI st), .int (nI th), .long za, .long zb, .ref z4, .ref z5, .ref z6, .int (nI el), .int (nI be), .ref z9, .ref z10, .ref z11, .ref z12, .int (b2i gz), .ref z14, .ref z15, .ref z16, .int (nI mm), .int (nI tt), .ref z19, .ref z20, .ref z21, .ref z22, .ref z23, .int (nI gm), .ref z25, .ref z26, .ref z27, .ref z28, .int (nI rn), .ref z30, .ref z31, .ref z32])), kI G z14 16 (oF gi), kI G z9 12 (nF pl), kI G z10 192 (nF le), kI G z11 192 (nF lb), kZ G z12 192 (bF br), kI G z16 16 (nF (va_up (pf (rd2 le lb br gi be s1 j) s1 b) b (if anyN (stB le lb br gi s1 j b) 0 = true then j + 2 else s1 b)))]) ?_ ?_
          · (rw [anyN, if_neg (by decide), up_id (pf_ge (Nat.le_refl _))])
          exact mX10_countSteps_L135 l G z z4 z5 z6 z9 z10 z11 z12 z14 z15 z16 z19 z20 z21 z22 z23 z25 z26 z27 z28 z30 z31 z32 st th za zb el be gz mm tt gm rn gi pl le lb br sp lf hel hle hlb hgi hbe hpl hlf hcn hb1 κ X no90 hK90 j s1 hj hs1 hm90 fu ih b hb hjj hms (be - 0 + 1) 0 (by omega) (by omega) (c_114) (by omega) (Nat.lt_succ_self _)
        · skip
          refine j_goto (pc := 129) X (tgt := 211) dX10_countSteps_129 (by decide) ?_
          refine j_iinc (pc := 211) X (v := nI (b + 1)) (lv' := [(3, .int (nI (b + 1))), (0, .ref z), (2, .int (nI (j + 2)))]) dX10_countSteps_211 2 rfl (nI_1 _) (by decide) rfl ?_
          refine j_goto (pc := 214) X (tgt := 100) dX10_countSteps_214 (by decide) ?_
          refine j_lv [1, 2, 0] (lv' := [(0, .ref z), (2, .int (nI (j + 2))), (3, .int (nI (b + 1)))]) rfl ?_
          refine j_ws (ws' := [(z, .inr (10, [.int (nI st), .int (nI th), .long za, .long zb, .ref z4, .ref z5, .ref z6, .int (nI el), .int (nI be), .ref z9, .ref z10, .ref z11, .ref z12, .int (b2i gz), .ref z14, .ref z15, .ref z16, .int (nI mm), .int (nI tt), .ref z19, .ref z20, .ref z21, .ref z22, .ref z23, .int (nI gm), .ref z25, .ref z26, .ref z27, .ref z28, .int (nI rn), .ref z30, .ref z31, .ref z32])), kI G z14 16 (oF gi), kI G z9 12 (nF pl), kI G z10 192 (nF le), kI G z11 192 (nF lb), kZ G z12 192 (bF br), kI G z16 16 (nF (pf (rd2 le lb br gi be s1 j) s1 (b + 1)))]) ?_ ?_
          · (rw [pf_id (by rw [rd2, if_pos (by first | (simp [c_105, c_114, c_126]; done) | exact Or.inr (by omega))])])
          exact ih (b + 1) (by omega) (by omega) (by omega)

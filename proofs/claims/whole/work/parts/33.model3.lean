set_option maxHeartbeats 4000000 in
set_option maxRecDepth 100000 in
theorem mX10_placed (l : Launch) (G : jG) (z : Nat) (z4 : Nat) (z5 : Nat) (z6 : Nat) (z9 : Nat) (z10 : Nat) (z11 : Nat) (z12 : Nat) (z14 : Nat) (z15 : Nat) (z16 : Nat) (z19 : Nat) (z20 : Nat) (z21 : Nat) (z22 : Nat) (z23 : Nat) (z25 : Nat) (z26 : Nat) (z27 : Nat) (z28 : Nat) (z30 : Nat) (z31 : Nat) (z32 : Nat) (st : Nat) (th : Nat) (za : Int64) (zb : Int64) (el : Nat) (be : Nat) (gz : Bool) (mm : Nat) (tt : Nat) (gm : Nat) (rn : Nat) (ym : Nat → Option Nat) (x : Int32) (k : Int32) (hym : ∀ k, ob 41 (ym k)) : MV l yX10_placed wsX10_placed ({ frames := 1, cells := 0, slots := 0, locals := 21 }) G [.ref z, .int x, .int k] [(z, .inr (10, [.int (nI st), .int (nI th), .long za, .long zb, .ref z4, .ref z5, .ref z6, .int (nI el), .int (nI be), .ref z9, .ref z10, .ref z11, .ref z12, .int (b2i gz), .ref z14, .ref z15, .ref z16, .int (nI mm), .int (nI tt), .ref z19, .ref z20, .ref z21, .ref z22, .ref z23, .int (nI gm), .ref z25, .ref z26, .ref z27, .ref z28, .int (nI rn), .ref z30, .ref z31, .ref z32])), kI G z5 4 (oF ym)] (some (.int (nI (plF (msO ym) (lnO ym) x k)))) [(z, .inr (10, [.int (nI st), .int (nI th), .long za, .long zb, .ref z4, .ref z5, .ref z6, .int (nI el), .int (nI be), .ref z9, .ref z10, .ref z11, .ref z12, .int (b2i gz), .ref z14, .ref z15, .ref z16, .int (nI mm), .int (nI tt), .ref z19, .ref z20, .ref z21, .ref z22, .ref z23, .int (nI gm), .ref z25, .ref z26, .ref z27, .ref z28, .int (nI rn), .ref z30, .ref z31, .ref z32])), kI G z5 4 (oF ym)] := by
  refine MF.ofJ (cc := cX10_placed) (maxL := 4) (ret := (some .int)) (own := RX10) (lv := [(0, .ref z), (1, .int x), (2, .int k)]) (by decide) rfl rfl (Nat.le_of_ble_eq_true rfl) rfl ?_
  intro κ X
  have i_X10 : ∀ w ∈ wsX100, w ∈ wsX10_placed := by decide +kernel
  refine j_aload_n (pc := 0) X dX10_placed_0 rfl 0 rfl ?_
  refine j_iload_n (pc := 1) X dX10_placed_1 rfl 1 rfl ?_
  refine j_ciP (pc := 2) X [0, 1] rfl (j_rV X (b := z) (As := [.int x]) (ci := 10) (rest := []) 1 (mX10_trayed l G z z4 z5 z6 z9 z10 z11 z12 z14 z15 z16 z19 z20 z21 z22 z23 z25 z26 z27 z28 z30 z31 z32 st th za zb el be gz mm tt gm rn ym x (by first | assumption | omega | exact ob_s (by omega) | exact ob_n)) gX10_placed_X10_trayed rfl rfl rfl (by decide +kernel) ⟨Nat.le_of_ble_eq_true rfl, Nat.le_of_ble_eq_true rfl⟩ rfl rfl 0 rfl [0, 1] rfl rfl rfl (Nat.le_of_ble_eq_true rfl) dX10_placed_2 ⟨Nat.le_of_ble_eq_true rfl, Nat.le_of_ble_eq_true rfl⟩) ?_
  refine j_istore_n (pc := 5) X (lv' := [(3, .int (nI (tfF (msO ym) x))), (0, .ref z), (1, .int x), (2, .int k)]) dX10_placed_5 rfl (by decide) rfl ?_
  refine j_iload_n (pc := 6) X dX10_placed_6 rfl 0 rfl ?_
  refine j_ifN_le (pc := 7) X (a := (tfF (msO ym) x)) (by first | omega | (have h9 := tfF_le (msO ym) x; omega)) (tgt := 14) dX10_placed_7 (by decide) (fun c_7 => ?_) (fun c_7 => ?_)
  · skip
    obtain ⟨j, hj, rfl, hmsj⟩ := tfF_0 (Nat.le_zero.mp c_7); have hq_j := nI_clamp (n := j) (by omega); have hq_t : tfF (msO ym) (nI j) = 0 := Nat.le_zero.mp c_7; obtain ⟨n0, hyn⟩ := Option.ne_none_iff_exists'.mp (fun h9 => by rw [msO_n h9] at hmsj; exact absurd hmsj (by decide)); have hn0 := hym j n0 hyn
    refine j_iload_n (pc := 14) X dX10_placed_14 rfl 3 rfl ?_
    refine j_if_lt (pc := 15) X (x := k) (tgt := 28) dX10_placed_15 (by decide) (fun c_15 => ?_) (fun c_15 => ?_)
    · skip
      have hq_h : hasP k (nI 1) (lnO ym j) = false := hasP_neg c_15
      refine j_iconst (pc := 28) X (v := nI 4) dX10_placed_28 (by decide) ?_
      refine j_goto (pc := 29) X (tgt := 33) dX10_placed_29 (by decide) ?_
      exact j_iret (pc := 33) X dX10_placed_33 ⟨by first | (simp [plF, tN, hq_j, hq_t, hq_h, c_7, c_15]; done) | (have hq_u : ¬ tfF (msO ym) x = 0 := (by omega); simp [plF, hq_u]; done), rfl⟩
    · skip
      refine j_iload_n (pc := 18) X dX10_placed_18 rfl 3 rfl ?_
      refine j_aload_n (pc := 19) X dX10_placed_19 rfl 1 rfl ?_
      refine j_get (pc := 20) X 10 i_X10 0 rfl rfl 5 (by decide) (by decide +kernel) rfl dX10_placed_20 ?_
      refine j_iload_n (pc := 23) X dX10_placed_23 rfl 2 rfl ?_
      refine j_iald (pc := 24) X 1 rfl (vp_in_nI (by omega) (by decide)) (v := nI n0) ((congrArg (oF ym) (nI_clamp (by omega))).trans ((by show oI (ym j) = nI n0; rw [hyn]; rfl))) dX10_placed_24 ?_
      refine j_icmp_lt (pc := 25) X (x := k) (z := nI n0) (tgt := 32) dX10_placed_25 (by decide) (fun c_25 => ?_) (fun c_25 => ?_)
      · skip
        obtain ⟨m, hm, rfl⟩ := rngl_of c_15 c_25 (by omega); have hq_h : hasP (nI m) (nI 1) (lnO ym j) = true := (by rw [lnO_s hyn, hasP_1 (by omega) (by omega)]; exact decide_eq_true hm)
        refine j_iconst (pc := 32) X (v := nI 0) dX10_placed_32 (by decide) ?_
        exact j_iret (pc := 33) X dX10_placed_33 ⟨by first | (simp [plF, tN, hq_j, hq_t, hq_h, c_7, c_15, c_25]; done) | (have hq_u : ¬ tfF (msO ym) x = 0 := (by omega); simp [plF, hq_u]; done), rfl⟩
      · skip
        obtain ⟨m, hm, rfl⟩ := nI_of c_15; have hq_h : hasP (nI m) (nI 1) (lnO ym j) = false := (by rw [lnO_s hyn, hasP_1 (by omega) (by omega)]; exact decide_eq_false (fun h9 => c_25 (nI_lt h9 (by omega))))
        refine j_iconst (pc := 28) X (v := nI 4) dX10_placed_28 (by decide) ?_
        refine j_goto (pc := 29) X (tgt := 33) dX10_placed_29 (by decide) ?_
        exact j_iret (pc := 33) X dX10_placed_33 ⟨by first | (simp [plF, tN, hq_j, hq_t, hq_h, c_7, c_15, c_25]; done) | (have hq_u : ¬ tfF (msO ym) x = 0 := (by omega); simp [plF, hq_u]; done), rfl⟩
  · skip
    refine j_iload_n (pc := 10) X dX10_placed_10 rfl 0 rfl ?_
    refine j_goto (pc := 11) X (tgt := 33) dX10_placed_11 (by decide) ?_
    exact j_iret (pc := 33) X dX10_placed_33 ⟨by first | (simp [plF, tN, c_7]; done) | (have hq_u : ¬ tfF (msO ym) x = 0 := (by omega); simp [plF, hq_u]; done), rfl⟩

set_option maxHeartbeats 4000000 in
set_option maxRecDepth 100000 in
theorem mX10_write (l : Launch) (G : jG) (z : Nat) (z4 : Nat) (z5 : Nat) (z6 : Nat) (z9 : Nat) (z10 : Nat) (z11 : Nat) (z12 : Nat) (z14 : Nat) (z15 : Nat) (z16 : Nat) (z19 : Nat) (z20 : Nat) (z21 : Nat) (z22 : Nat) (z23 : Nat) (z25 : Nat) (z26 : Nat) (z27 : Nat) (z28 : Nat) (z30 : Nat) (z31 : Nat) (z32 : Nat) (st : Nat) (th : Nat) (za : Int64) (zb : Int64) (el : Nat) (be : Nat) (gz : Bool) (mm : Nat) (tt : Nat) (gm : Nat) (rn : Nat) (ym : Nat → Option Nat) (ts : Nat → Nat) (nu : Nat → Int64) (x : Int32) (k : Int32) (v : Int64) (hym : ∀ k, ob 41 (ym k)) (hts_ : ∀ k, ts k < 4) : MV l yX10_write wsX10_write ({ frames := 2, cells := 0, slots := 0, locals := 44 }) G [.ref z, .int x, .int k, .long v] [(z, .inr (10, [.int (nI st), .int (nI th), .long za, .long zb, .ref z4, .ref z5, .ref z6, .int (nI el), .int (nI be), .ref z9, .ref z10, .ref z11, .ref z12, .int (b2i gz), .ref z14, .ref z15, .ref z16, .int (nI mm), .int (nI tt), .ref z19, .ref z20, .ref z21, .ref z22, .ref z23, .int (nI gm), .ref z25, .ref z26, .ref z27, .ref z28, .int (nI rn), .ref z30, .ref z31, .ref z32])), kI G z5 4 (oF ym), kI G z4 4 (nF ts), kJ G z6 160 nu] (some (.int (b2i ((sWriteM ym ts nu x k v).1)))) [(z, .inr (10, [.int (nI ((sWriteM ym ts nu x k v).2.1)), .int (nI 0), .long za, .long zb, .ref z4, .ref z5, .ref z6, .int (nI el), .int (nI be), .ref z9, .ref z10, .ref z11, .ref z12, .int (b2i gz), .ref z14, .ref z15, .ref z16, .int (nI mm), .int (nI tt), .ref z19, .ref z20, .ref z21, .ref z22, .ref z23, .int (nI gm), .ref z25, .ref z26, .ref z27, .ref z28, .int (nI rn), .ref z30, .ref z31, .ref z32])), kI G z5 4 (oF ym), kI G z4 4 (nF ts), kJ G z6 160 ((sWriteM ym ts nu x k v).2.2)] := by
  refine MF.ofJ (cc := cX10_write) (maxL := 5) (ret := (some .boolean)) (own := RX10) (lv := [(0, .ref z), (1, .int x), (2, .int k), (3, .long v)]) (by decide) rfl rfl (Nat.le_of_ble_eq_true rfl) rfl ?_
  intro κ X
  have i_X10 : ∀ w ∈ wsX100, w ∈ wsX10_write := by decide +kernel
  refine j_aload_n (pc := 0) X dX10_write_0 rfl 0 rfl ?_
  refine j_iconst (pc := 1) X (v := nI 0) dX10_write_1 (by decide) ?_
  refine j_put (pc := 2) X (v := .int (nI 0)) (ws' := [(z, .inr (10, [.int (nI st), .int (nI 0), .long za, .long zb, .ref z4, .ref z5, .ref z6, .int (nI el), .int (nI be), .ref z9, .ref z10, .ref z11, .ref z12, .int (b2i gz), .ref z14, .ref z15, .ref z16, .int (nI mm), .int (nI tt), .ref z19, .ref z20, .ref z21, .ref z22, .ref z23, .int (nI gm), .ref z25, .ref z26, .ref z27, .ref z28, .int (nI rn), .ref z30, .ref z31, .ref z32])), kI G z5 4 (oF ym), kI G z4 4 (nF ts), kJ G z6 160 nu]) 10 i_X10 tyX10 tyX10_ok nmX10 0 rfl rfl 1 (by decide) (by decide +kernel) (by decide) (rfl) (rfl) (Nat.le_of_ble_eq_true rfl) dX10_write_2 rfl ?_
  refine j_aload_n (pc := 5) X dX10_write_5 rfl 0 rfl ?_
  refine j_aload_n (pc := 6) X dX10_write_6 rfl 0 rfl ?_
  refine j_iload_n (pc := 7) X dX10_write_7 rfl 1 rfl ?_
  refine j_iload_n (pc := 8) X dX10_write_8 rfl 2 rfl ?_
  refine j_ciP (pc := 9) X [0, 1] rfl (j_rV X (b := z) (As := [.int x, .int k]) (ci := 10) (rest := [.ref z]) 2 (mX10_placed l G z z4 z5 z6 z9 z10 z11 z12 z14 z15 z16 z19 z20 z21 z22 z23 z25 z26 z27 z28 z30 z31 z32 st 0 za zb el be gz mm tt gm rn ym x k (by first | assumption | omega | exact ob_s (by omega) | exact ob_n)) gX10_write_X10_placed rfl rfl rfl (by decide +kernel) ⟨Nat.le_of_ble_eq_true rfl, Nat.le_of_ble_eq_true rfl⟩ rfl rfl 0 rfl [0, 1] rfl rfl rfl (Nat.le_of_ble_eq_true rfl) dX10_write_9 ⟨Nat.le_of_ble_eq_true rfl, Nat.le_of_ble_eq_true rfl⟩) ?_
  refine j_put (pc := 12) X (v := .int (nI (plF (msO ym) (lnO ym) x k))) (ws' := [(z, .inr (10, [.int (nI (plF (msO ym) (lnO ym) x k)), .int (nI 0), .long za, .long zb, .ref z4, .ref z5, .ref z6, .int (nI el), .int (nI be), .ref z9, .ref z10, .ref z11, .ref z12, .int (b2i gz), .ref z14, .ref z15, .ref z16, .int (nI mm), .int (nI tt), .ref z19, .ref z20, .ref z21, .ref z22, .ref z23, .int (nI gm), .ref z25, .ref z26, .ref z27, .ref z28, .int (nI rn), .ref z30, .ref z31, .ref z32])), kI G z5 4 (oF ym), kI G z4 4 (nF ts), kJ G z6 160 nu]) 10 i_X10 tyX10 tyX10_ok nmX10 0 rfl rfl 0 (by decide) (by decide +kernel) (by decide) (rfl) (rfl) (Nat.le_of_ble_eq_true rfl) dX10_write_12 rfl ?_
  refine j_aload_n (pc := 15) X dX10_write_15 rfl 0 rfl ?_
  refine j_get (pc := 16) X 10 i_X10 0 rfl rfl 0 (by decide) (by decide +kernel) rfl dX10_write_16 ?_
  refine j_ifN_le (pc := 19) X (a := (plF (msO ym) (lnO ym) x k)) (by first | omega | (have h9 := plF_le (msO ym) (lnO ym) x k; omega)) (tgt := 24) dX10_write_19 (by decide) (fun c_19 => ?_) (fun c_19 => ?_)
  · skip
    obtain ⟨j, m, hj, rfl, hmsj, hmn, rfl⟩ := plF_0 (lnO_le hym) (Nat.le_zero.mp c_19); have hq_j := nI_clamp (n := j) (by omega); have hm40 := lnO_le hym j; have hq_m := nI_clamp (n := m) (by omega); have hq_t : plF (msO ym) (lnO ym) (nI j) (nI m) = 0 := Nat.le_zero.mp c_19
    refine j_aload_n (pc := 24) X dX10_write_24 rfl 0 rfl ?_
    refine j_get (pc := 25) X 10 i_X10 0 rfl rfl 6 (by decide) (by decide +kernel) rfl dX10_write_25 ?_
    refine j_bipush (pc := 28) X (v := nI 40) dX10_write_28 (by decide) ?_
    refine j_iload_n (pc := 30) X dX10_write_30 rfl 1 rfl ?_
    refine j_imul (pc := 31) X dX10_write_31 ?_
    refine j_topi (z := nI (40 * j)) (pk_mul _ _) ?_
    refine j_iload_n (pc := 32) X dX10_write_32 rfl 2 rfl ?_
    refine j_iadd (pc := 33) X dX10_write_33 ?_
    refine j_topi (z := nI (40 * j + m)) (nI_add _ _) ?_
    refine j_aload_n (pc := 34) X dX10_write_34 rfl 0 rfl ?_
    refine j_get (pc := 35) X 10 i_X10 0 rfl rfl 4 (by decide) (by decide +kernel) rfl dX10_write_35 ?_
    refine j_iload_n (pc := 38) X dX10_write_38 rfl 1 rfl ?_
    refine j_iald (pc := 39) X 2 rfl (vp_in_nI (by omega) (by decide)) (v := nI (ts j)) (congrArg (nF ts) (nI_clamp (by omega))) dX10_write_39 ?_
    refine j_lload_n (pc := 40) X dX10_write_40 rfl 3 rfl ?_
    refine j_clP (pc := 41) X [] rfl (j_rS X (As := [.int (nI (ts j)), .long v]) (rest := [.int (nI (40 * j + m)), .ref z6]) 2 (mX10_cut l G (ts j) v (by exact hts_ _)) gX10_write_X10_cut rfl rfl rfl (by decide +kernel) ⟨Nat.le_of_ble_eq_true rfl, Nat.le_of_ble_eq_true rfl⟩ rfl [] rfl rfl rfl (Nat.le_of_ble_eq_true rfl) dX10_write_41 ⟨Nat.le_of_ble_eq_true rfl, Nat.le_of_ble_eq_true rfl⟩) ?_
    refine j_last (pc := 44) X (f2 := (va_up nu (40 * j + m) (cutL (ts j) v))) (ws' := [(z, .inr (10, [.int (nI (plF (msO ym) (lnO ym) (nI j) (nI m))), .int (nI 0), .long za, .long zb, .ref z4, .ref z5, .ref z6, .int (nI el), .int (nI be), .ref z9, .ref z10, .ref z11, .ref z12, .int (b2i gz), .ref z14, .ref z15, .ref z16, .int (nI mm), .int (nI tt), .ref z19, .ref z20, .ref z21, .ref z22, .ref z23, .int (nI gm), .ref z25, .ref z26, .ref z27, .ref z28, .int (nI rn), .ref z30, .ref z31, .ref z32])), kI G z5 4 (oF ym), kI G z4 4 (nF ts), kJ G z6 160 (va_up nu (40 * j + m) (cutL (ts j) v))]) 3 rfl (vp_in_nI (by omega) (by decide)) dX10_write_44 (by rw [nI_clamp (by omega)]; exact lF_up _ _ _) rfl ?_
    refine j_iconst (pc := 45) X (v := nI 1) dX10_write_45 (by decide) ?_
    have hs : sWriteM ym ts nu (nI j) (nI m) v = (true, plF (msO ym) (lnO ym) (nI j) (nI m), va_up nu (40 * j + m) (cutL (ts j) v)) := by first | (simp [sWriteM, tN, hq_j, hq_m, hq_t, c_19]; done) | (have hq_u : ¬ plF (msO ym) (lnO ym) x k = 0 := (by omega); simp [sWriteM, hq_u]; done)
    refine j_zret (pc := 46) X (rfl) dX10_write_46 ?_
    rw [hs]; exact ⟨rfl, rfl⟩
  · skip
    refine j_iconst (pc := 22) X (v := nI 0) dX10_write_22 (by decide) ?_
    have hs : sWriteM ym ts nu x k v = (false, plF (msO ym) (lnO ym) x k, nu) := by first | (simp [sWriteM, tN, c_19]; done) | (have hq_u : ¬ plF (msO ym) (lnO ym) x k = 0 := (by omega); simp [sWriteM, hq_u]; done)
    refine j_zret (pc := 23) X (rfl) dX10_write_23 ?_
    rw [hs]; exact ⟨rfl, rfl⟩

set_option maxHeartbeats 4000000 in
set_option maxRecDepth 100000 in
theorem mX10_read (l : Launch) (G : jG) (z : Nat) (z4 : Nat) (z5 : Nat) (z6 : Nat) (z9 : Nat) (z10 : Nat) (z11 : Nat) (z12 : Nat) (z14 : Nat) (z15 : Nat) (z16 : Nat) (z19 : Nat) (z20 : Nat) (z21 : Nat) (z22 : Nat) (z23 : Nat) (z25 : Nat) (z26 : Nat) (z27 : Nat) (z28 : Nat) (z30 : Nat) (z31 : Nat) (z32 : Nat) (st : Nat) (th : Nat) (za : Int64) (zb : Int64) (el : Nat) (be : Nat) (gz : Bool) (mm : Nat) (tt : Nat) (gm : Nat) (rn : Nat) (ym : Nat → Option Nat) (nu : Nat → Int64) (x : Int32) (k : Int32) (hym : ∀ k, ob 41 (ym k)) : MV l yX10_read wsX10_read ({ frames := 2, cells := 0, slots := 0, locals := 44 }) G [.ref z, .int x, .int k] [(z, .inr (10, [.int (nI st), .int (nI th), .long za, .long zb, .ref z4, .ref z5, .ref z6, .int (nI el), .int (nI be), .ref z9, .ref z10, .ref z11, .ref z12, .int (b2i gz), .ref z14, .ref z15, .ref z16, .int (nI mm), .int (nI tt), .ref z19, .ref z20, .ref z21, .ref z22, .ref z23, .int (nI gm), .ref z25, .ref z26, .ref z27, .ref z28, .int (nI rn), .ref z30, .ref z31, .ref z32])), kI G z5 4 (oF ym), kJ G z6 160 nu] (some (.long ((sReadM ym nu x k).1))) [(z, .inr (10, [.int (nI ((sReadM ym nu x k).2)), .int (nI 0), .long za, .long zb, .ref z4, .ref z5, .ref z6, .int (nI el), .int (nI be), .ref z9, .ref z10, .ref z11, .ref z12, .int (b2i gz), .ref z14, .ref z15, .ref z16, .int (nI mm), .int (nI tt), .ref z19, .ref z20, .ref z21, .ref z22, .ref z23, .int (nI gm), .ref z25, .ref z26, .ref z27, .ref z28, .int (nI rn), .ref z30, .ref z31, .ref z32])), kI G z5 4 (oF ym), kJ G z6 160 nu] := by
  refine MF.ofJ (cc := cX10_read) (maxL := 3) (ret := (some .long)) (own := RX10) (lv := [(0, .ref z), (1, .int x), (2, .int k)]) (by decide) rfl rfl (Nat.le_of_ble_eq_true rfl) rfl ?_
  intro κ X
  have i_X10 : ∀ w ∈ wsX100, w ∈ wsX10_read := by decide +kernel
  refine j_aload_n (pc := 0) X dX10_read_0 rfl 0 rfl ?_
  refine j_iconst (pc := 1) X (v := nI 0) dX10_read_1 (by decide) ?_
  refine j_put (pc := 2) X (v := .int (nI 0)) (ws' := [(z, .inr (10, [.int (nI st), .int (nI 0), .long za, .long zb, .ref z4, .ref z5, .ref z6, .int (nI el), .int (nI be), .ref z9, .ref z10, .ref z11, .ref z12, .int (b2i gz), .ref z14, .ref z15, .ref z16, .int (nI mm), .int (nI tt), .ref z19, .ref z20, .ref z21, .ref z22, .ref z23, .int (nI gm), .ref z25, .ref z26, .ref z27, .ref z28, .int (nI rn), .ref z30, .ref z31, .ref z32])), kI G z5 4 (oF ym), kJ G z6 160 nu]) 10 i_X10 tyX10 tyX10_ok nmX10 0 rfl rfl 1 (by decide) (by decide +kernel) (by decide) (rfl) (rfl) (Nat.le_of_ble_eq_true rfl) dX10_read_2 rfl ?_
  refine j_aload_n (pc := 5) X dX10_read_5 rfl 0 rfl ?_
  refine j_aload_n (pc := 6) X dX10_read_6 rfl 0 rfl ?_
  refine j_iload_n (pc := 7) X dX10_read_7 rfl 1 rfl ?_
  refine j_iload_n (pc := 8) X dX10_read_8 rfl 2 rfl ?_
  refine j_ciP (pc := 9) X [0, 1] rfl (j_rV X (b := z) (As := [.int x, .int k]) (ci := 10) (rest := [.ref z]) 2 (mX10_placed l G z z4 z5 z6 z9 z10 z11 z12 z14 z15 z16 z19 z20 z21 z22 z23 z25 z26 z27 z28 z30 z31 z32 st 0 za zb el be gz mm tt gm rn ym x k (by first | assumption | omega | exact ob_s (by omega) | exact ob_n)) gX10_read_X10_placed rfl rfl rfl (by decide +kernel) ⟨Nat.le_of_ble_eq_true rfl, Nat.le_of_ble_eq_true rfl⟩ rfl rfl 0 rfl [0, 1] rfl rfl rfl (Nat.le_of_ble_eq_true rfl) dX10_read_9 ⟨Nat.le_of_ble_eq_true rfl, Nat.le_of_ble_eq_true rfl⟩) ?_
  refine j_put (pc := 12) X (v := .int (nI (plF (msO ym) (lnO ym) x k))) (ws' := [(z, .inr (10, [.int (nI (plF (msO ym) (lnO ym) x k)), .int (nI 0), .long za, .long zb, .ref z4, .ref z5, .ref z6, .int (nI el), .int (nI be), .ref z9, .ref z10, .ref z11, .ref z12, .int (b2i gz), .ref z14, .ref z15, .ref z16, .int (nI mm), .int (nI tt), .ref z19, .ref z20, .ref z21, .ref z22, .ref z23, .int (nI gm), .ref z25, .ref z26, .ref z27, .ref z28, .int (nI rn), .ref z30, .ref z31, .ref z32])), kI G z5 4 (oF ym), kJ G z6 160 nu]) 10 i_X10 tyX10 tyX10_ok nmX10 0 rfl rfl 0 (by decide) (by decide +kernel) (by decide) (rfl) (rfl) (Nat.le_of_ble_eq_true rfl) dX10_read_12 rfl ?_
  refine j_aload_n (pc := 15) X dX10_read_15 rfl 0 rfl ?_
  refine j_get (pc := 16) X 10 i_X10 0 rfl rfl 0 (by decide) (by decide +kernel) rfl dX10_read_16 ?_
  refine j_ifN_le (pc := 19) X (a := (plF (msO ym) (lnO ym) x k)) (by first | omega | (have h9 := plF_le (msO ym) (lnO ym) x k; omega)) (tgt := 28) dX10_read_19 (by decide) (fun c_19 => ?_) (fun c_19 => ?_)
  · skip
    obtain ⟨j, m, hj, rfl, hmsj, hmn, rfl⟩ := plF_0 (lnO_le hym) (Nat.le_zero.mp c_19); have hq_j := nI_clamp (n := j) (by omega); have hm40 := lnO_le hym j; have hq_m := nI_clamp (n := m) (by omega); have hq_t : plF (msO ym) (lnO ym) (nI j) (nI m) = 0 := Nat.le_zero.mp c_19
    refine j_aload_n (pc := 28) X dX10_read_28 rfl 0 rfl ?_
    refine j_get (pc := 29) X 10 i_X10 0 rfl rfl 6 (by decide) (by decide +kernel) rfl dX10_read_29 ?_
    refine j_bipush (pc := 32) X (v := nI 40) dX10_read_32 (by decide) ?_
    refine j_iload_n (pc := 34) X dX10_read_34 rfl 1 rfl ?_
    refine j_imul (pc := 35) X dX10_read_35 ?_
    refine j_topi (z := nI (40 * j)) (pk_mul _ _) ?_
    refine j_iload_n (pc := 36) X dX10_read_36 rfl 2 rfl ?_
    refine j_iadd (pc := 37) X dX10_read_37 ?_
    refine j_topi (z := nI (40 * j + m)) (nI_add _ _) ?_
    refine j_lald (pc := 38) X 2 rfl (vp_in_nI (by omega) (by decide)) (v := nu (40 * j + m)) (congrArg nu (nI_clamp (by omega))) dX10_read_38 ?_
    have hs : sReadM ym nu (nI j) (nI m) = (nu (40 * j + m), plF (msO ym) (lnO ym) (nI j) (nI m)) := by first | (simp [sReadM, nuT, tN, hq_j, hq_m, hq_t, c_19]; done) | (have hq_u : ¬ plF (msO ym) (lnO ym) x k = 0 := (by omega); simp [sReadM, hq_u]; done)
    refine j_lret (pc := 39) X dX10_read_39 ?_
    rw [hs]; exact ⟨rfl, rfl⟩
  · skip
    refine j_ldc2 (pc := 22) X (v := (-1)) dX10_read_22 (by decide +kernel) ?_
    refine j_goto (pc := 25) X (tgt := 39) dX10_read_25 (by decide) ?_
    have hs : sReadM ym nu x k = ((-1), plF (msO ym) (lnO ym) x k) := by first | (simp [sReadM, nuT, tN, c_19]; done) | (have hq_u : ¬ plF (msO ym) (lnO ym) x k = 0 := (by omega); simp [sReadM, hq_u]; done)
    refine j_lret (pc := 39) X dX10_read_39 ?_
    rw [hs]; exact ⟨rfl, rfl⟩

set_option maxHeartbeats 4000000 in
set_option maxRecDepth 100000 in
theorem mX10_trial_L59 (l : Launch) (G : jG) (z : Nat) (z4 : Nat) (z5 : Nat) (z6 : Nat) (z9 : Nat) (z10 : Nat) (z11 : Nat) (z12 : Nat) (z14 : Nat) (z15 : Nat) (z16 : Nat) (z19 : Nat) (z20 : Nat) (z21 : Nat) (z22 : Nat) (z23 : Nat) (z25 : Nat) (z26 : Nat) (z27 : Nat) (z28 : Nat) (z30 : Nat) (z31 : Nat) (z32 : Nat) (st : Nat) (th : Nat) (za : Int64) (zb : Int64) (el : Nat) (be : Nat) (gz : Bool) (mm : Nat) (tt : Nat) (gm : Nat) (rn : Nat) (ym : Nat → Option Nat) (nu : Nat → Int64) (x : Int32) (n : Int32) (s : Int32) (hym : ∀ k, ob 41 (ym k)) (κ : jK) (X : CX κ l yX10_trial cX10_trial 6 RX10 wsX10_trial (some .int) ({ frames := 1, cells := 0, slots := 0, locals := 21 }) G (va_A [(z, .inr (10, [.int (nI st), .int (nI th), .long za, .long zb, .ref z4, .ref z5, .ref z6, .int (nI el), .int (nI be), .ref z9, .ref z10, .ref z11, .ref z12, .int (b2i gz), .ref z14, .ref z15, .ref z16, .int (nI mm), .int (nI tt), .ref z19, .ref z20, .ref z21, .ref z22, .ref z23, .int (nI gm), .ref z25, .ref z26, .ref z27, .ref z28, .int (nI rn), .ref z30, .ref z31, .ref z32])), kI G z5 4 (oF ym), kJ G z6 160 nu] (js κ).heap.size))    : ∀ (fu : Nat) (j : Nat) (m : Nat) (t : Nat) (n0 : Nat) (k : Nat) (hxj : x = nI j) (hnm : n = nI m) (hst : s = nI t) (hj : j < 4) (hm2 : 2 ≤ m) (hm16 : m ≤ 16) (hm40 : m ≤ 40) (hk : k ≤ m) (ho : outc (nuT nu j) k = true) (hok : trF (msO ym) (lnO ym) (nuT nu) (nI j) (nI m) (nI t) = if outc (nuT nu j) m = true then 0 else 5) (_ : m - k < fu), JJ κ 6 G (va_A [(z, .inr (10, [.int (nI st), .int (nI th), .long za, .long zb, .ref z4, .ref z5, .ref z6, .int (nI el), .int (nI be), .ref z9, .ref z10, .ref z11, .ref z12, .int (b2i gz), .ref z14, .ref z15, .ref z16, .int (nI mm), .int (nI tt), .ref z19, .ref z20, .ref z21, .ref z22, .ref z23, .int (nI gm), .ref z25, .ref z26, .ref z27, .ref z28, .int (nI rn), .ref z30, .ref z31, .ref z32])), kI G z5 4 (oF ym), kJ G z6 160 nu] (js κ).heap.size) 0 0 (jQ κ G [(z, .inr (10, [.int (nI st), .int (nI th), .long za, .long zb, .ref z4, .ref z5, .ref z6, .int (nI el), .int (nI be), .ref z9, .ref z10, .ref z11, .ref z12, .int (b2i gz), .ref z14, .ref z15, .ref z16, .int (nI mm), .int (nI tt), .ref z19, .ref z20, .ref z21, .ref z22, .ref z23, .int (nI gm), .ref z25, .ref z26, .ref z27, .ref z28, .int (nI rn), .ref z30, .ref z31, .ref z32])), kI G z5 4 (oF ym), kJ G z6 160 nu] (fun r w' => r = some (.int (nI (trF (msO ym) (lnO ym) (nuT nu) x n s))) ∧ w' = [(z, .inr (10, [.int (nI st), .int (nI th), .long za, .long zb, .ref z4, .ref z5, .ref z6, .int (nI el), .int (nI be), .ref z9, .ref z10, .ref z11, .ref z12, .int (b2i gz), .ref z14, .ref z15, .ref z16, .int (nI mm), .int (nI tt), .ref z19, .ref z20, .ref z21, .ref z22, .ref z23, .int (nI gm), .ref z25, .ref z26, .ref z27, .ref z28, .int (nI rn), .ref z30, .ref z31, .ref z32])), kI G z5 4 (oF ym), kJ G z6 160 nu]) 0 0) 59 [(0, .ref z), (1, .int (nI j)), (2, .int (nI m)), (5, .int (nI k))] [] [(z, .inr (10, [.int (nI st), .int (nI th), .long za, .long zb, .ref z4, .ref z5, .ref z6, .int (nI el), .int (nI be), .ref z9, .ref z10, .ref z11, .ref z12, .int (b2i gz), .ref z14, .ref z15, .ref z16, .int (nI mm), .int (nI tt), .ref z19, .ref z20, .ref z21, .ref z22, .ref z23, .int (nI gm), .ref z25, .ref z26, .ref z27, .ref z28, .int (nI rn), .ref z30, .ref z31, .ref z32])), kI G z5 4 (oF ym), kJ G z6 160 nu] := by
  have i_X10 : ∀ w ∈ wsX100, w ∈ wsX10_trial := by decide +kernel
  intro fu
  induction fu with
  | zero => intro j m t n0 k hxj hnm hst hj hm2 hm16 hm40 hk ho hok hms; exact absurd hms (Nat.not_lt_zero _)
  | succ fu ih =>
    intro j m t n0 k hxj hnm hst hj hm2 hm16 hm40 hk ho hok hms
    subst hxj
    subst hnm
    subst hst
    refine j_iload (pc := 59) X dX10_trial_59 3 rfl ?_
    refine j_iload_n (pc := 61) X dX10_trial_61 rfl 2 rfl ?_
    refine j_icmpN_ge (pc := 62) X (a := k) (b := m) (by first | omega | (have h9 := tfF_le (msO ym) x; omega)) (by first | omega | (have h9 := tfF_le (msO ym) x; omega)) (tgt := 109) dX10_trial_62 (by decide) (fun c_62 => ?_) (fun c_62 => ?_)
    · skip
      refine j_iconst (pc := 109) X (v := nI 0) dX10_trial_109 (by decide) ?_
      exact j_iret (pc := 110) X dX10_trial_110 ⟨by rw [hok, show m = k by omega, ho]; rfl, rfl⟩
    · skip
      refine j_aload_n (pc := 65) X dX10_trial_65 rfl 0 rfl ?_
      refine j_get (pc := 66) X 10 i_X10 0 rfl rfl 6 (by decide) (by decide +kernel) rfl dX10_trial_66 ?_
      refine j_bipush (pc := 69) X (v := nI 40) dX10_trial_69 (by decide) ?_
      refine j_iload_n (pc := 71) X dX10_trial_71 rfl 1 rfl ?_
      refine j_imul (pc := 72) X dX10_trial_72 ?_
      refine j_topi (z := nI (40 * j)) (pk_mul _ _) ?_
      refine j_iload (pc := 73) X dX10_trial_73 3 rfl ?_
      refine j_iadd (pc := 75) X dX10_trial_75 ?_
      refine j_topi (z := nI (40 * j + k)) (nI_add _ _) ?_
      refine j_lald (pc := 76) X 2 rfl (vp_in_nI (by omega) (by decide)) (v := nu (40 * j + k)) (congrArg nu (nI_clamp (by omega))) dX10_trial_76 ?_
      refine j_lconst (pc := 77) X (v := 0) dX10_trial_77 (by decide) ?_
      refine j_lcmp (pc := 78) X dX10_trial_78 ?_
      refine j_ifc_lt (pc := 79) X (tgt := 101) dX10_trial_79 (by decide) (fun c_79 => ?_) (fun c_79 => ?_)
      · skip
        refine j_iconst (pc := 101) X (v := nI 5) dX10_trial_101 (by decide) ?_
        exact j_iret (pc := 102) X dX10_trial_102 ⟨by rw [hok, outc_bad (u := nuT nu j) (i := k) (by first | exact Or.inl c_79 | exact Or.inr c_98) m (by omega)]; rfl, rfl⟩
      · skip
        refine j_aload_n (pc := 82) X dX10_trial_82 rfl 0 rfl ?_
        refine j_get (pc := 83) X 10 i_X10 0 rfl rfl 6 (by decide) (by decide +kernel) rfl dX10_trial_83 ?_
        refine j_bipush (pc := 86) X (v := nI 40) dX10_trial_86 (by decide) ?_
        refine j_iload_n (pc := 88) X dX10_trial_88 rfl 1 rfl ?_
        refine j_imul (pc := 89) X dX10_trial_89 ?_
        refine j_topi (z := nI (40 * j)) (pk_mul _ _) ?_
        refine j_iload (pc := 90) X dX10_trial_90 3 rfl ?_
        refine j_iadd (pc := 92) X dX10_trial_92 ?_
        refine j_topi (z := nI (40 * j + k)) (nI_add _ _) ?_
        refine j_lald (pc := 93) X 2 rfl (vp_in_nI (by omega) (by decide)) (v := nu (40 * j + k)) (congrArg nu (nI_clamp (by omega))) dX10_trial_93 ?_
        refine j_ldc2 (pc := 94) X (v := 100) dX10_trial_94 (by decide +kernel) ?_
        refine j_lcmp (pc := 97) X dX10_trial_97 ?_
        refine j_ifc_le (pc := 98) X (tgt := 103) dX10_trial_98 (by decide) (fun c_98 => ?_) (fun c_98 => ?_)
        · skip
          refine j_iinc (pc := 103) X (v := nI (k + 1)) (lv' := [(5, .int (nI (k + 1))), (0, .ref z), (1, .int (nI j)), (2, .int (nI m))]) dX10_trial_103 3 rfl (nI_1 _) (by decide) rfl ?_
          refine j_goto (pc := 106) X (tgt := 59) dX10_trial_106 (by decide) ?_
          refine j_lv [1, 2, 3, 0] (lv' := [(0, .ref z), (1, .int (nI j)), (2, .int (nI m)), (5, .int (nI (k + 1)))]) rfl ?_
          exact ih j m t n0 (k + 1) (rfl) (rfl) (rfl) (by omega) (by omega) (by omega) (by omega) (by omega) (by have c1 : ¬ nuT nu j k < 0 := c_79; have c2 : nuT nu j k ≤ 100 := c_98; simp [outc, ho, c1, c2]) (hok) (by omega)
        · skip
          refine j_iconst (pc := 101) X (v := nI 5) dX10_trial_101 (by decide) ?_
          exact j_iret (pc := 102) X dX10_trial_102 ⟨by rw [hok, outc_bad (u := nuT nu j) (i := k) (by first | exact Or.inl c_79 | exact Or.inr c_98) m (by omega)]; rfl, rfl⟩
set_option maxHeartbeats 4000000 in
set_option maxRecDepth 100000 in
theorem mX10_trial (l : Launch) (G : jG) (z : Nat) (z4 : Nat) (z5 : Nat) (z6 : Nat) (z9 : Nat) (z10 : Nat) (z11 : Nat) (z12 : Nat) (z14 : Nat) (z15 : Nat) (z16 : Nat) (z19 : Nat) (z20 : Nat) (z21 : Nat) (z22 : Nat) (z23 : Nat) (z25 : Nat) (z26 : Nat) (z27 : Nat) (z28 : Nat) (z30 : Nat) (z31 : Nat) (z32 : Nat) (st : Nat) (th : Nat) (za : Int64) (zb : Int64) (el : Nat) (be : Nat) (gz : Bool) (mm : Nat) (tt : Nat) (gm : Nat) (rn : Nat) (ym : Nat → Option Nat) (nu : Nat → Int64) (x : Int32) (n : Int32) (s : Int32) (hym : ∀ k, ob 41 (ym k)) : MV l yX10_trial wsX10_trial ({ frames := 1, cells := 0, slots := 0, locals := 21 }) G [.ref z, .int x, .int n, .int s] [(z, .inr (10, [.int (nI st), .int (nI th), .long za, .long zb, .ref z4, .ref z5, .ref z6, .int (nI el), .int (nI be), .ref z9, .ref z10, .ref z11, .ref z12, .int (b2i gz), .ref z14, .ref z15, .ref z16, .int (nI mm), .int (nI tt), .ref z19, .ref z20, .ref z21, .ref z22, .ref z23, .int (nI gm), .ref z25, .ref z26, .ref z27, .ref z28, .int (nI rn), .ref z30, .ref z31, .ref z32])), kI G z5 4 (oF ym), kJ G z6 160 nu] (some (.int (nI (trF (msO ym) (lnO ym) (nuT nu) x n s)))) [(z, .inr (10, [.int (nI st), .int (nI th), .long za, .long zb, .ref z4, .ref z5, .ref z6, .int (nI el), .int (nI be), .ref z9, .ref z10, .ref z11, .ref z12, .int (b2i gz), .ref z14, .ref z15, .ref z16, .int (nI mm), .int (nI tt), .ref z19, .ref z20, .ref z21, .ref z22, .ref z23, .int (nI gm), .ref z25, .ref z26, .ref z27, .ref z28, .int (nI rn), .ref z30, .ref z31, .ref z32])), kI G z5 4 (oF ym), kJ G z6 160 nu] := by
  refine MF.ofJ (cc := cX10_trial) (maxL := 6) (ret := (some .int)) (own := RX10) (lv := [(0, .ref z), (1, .int x), (2, .int n), (3, .int s)]) (by decide) rfl rfl (Nat.le_of_ble_eq_true rfl) rfl ?_
  intro κ X
  have i_X10 : ∀ w ∈ wsX100, w ∈ wsX10_trial := by decide +kernel
  refine j_aload_n (pc := 0) X dX10_trial_0 rfl 0 rfl ?_
  refine j_iload_n (pc := 1) X dX10_trial_1 rfl 1 rfl ?_
  refine j_ciP (pc := 2) X [0, 1] rfl (j_rV X (b := z) (As := [.int x]) (ci := 10) (rest := []) 1 (mX10_trayed l G z z4 z5 z6 z9 z10 z11 z12 z14 z15 z16 z19 z20 z21 z22 z23 z25 z26 z27 z28 z30 z31 z32 st th za zb el be gz mm tt gm rn ym x (by first | assumption | omega | exact ob_s (by omega) | exact ob_n)) gX10_trial_X10_trayed rfl rfl rfl (by decide +kernel) ⟨Nat.le_of_ble_eq_true rfl, Nat.le_of_ble_eq_true rfl⟩ rfl rfl 0 rfl [0, 1] rfl rfl rfl (Nat.le_of_ble_eq_true rfl) dX10_trial_2 ⟨Nat.le_of_ble_eq_true rfl, Nat.le_of_ble_eq_true rfl⟩) ?_
  refine j_istore (pc := 5) X (lv' := [(4, .int (nI (tfF (msO ym) x))), (0, .ref z), (1, .int x), (2, .int n), (3, .int s)]) dX10_trial_5 (by decide) rfl ?_
  refine j_iload (pc := 7) X dX10_trial_7 0 rfl ?_
  refine j_ifN_le (pc := 9) X (a := (tfF (msO ym) x)) (by first | omega | (have h9 := tfF_le (msO ym) x; omega)) (tgt := 15) dX10_trial_9 (by decide) (fun c_9 => ?_) (fun c_9 => ?_)
  · skip
    obtain ⟨j, hj, rfl, hmsj⟩ := tfF_0 (Nat.le_zero.mp c_9); have hq_j := nI_clamp (n := j) (by omega); have hq_t : tfF (msO ym) (nI j) = 0 := Nat.le_zero.mp c_9; obtain ⟨n0, hyn⟩ := Option.ne_none_iff_exists'.mp (fun h9 => by rw [msO_n h9] at hmsj; exact absurd hmsj (by decide)); have hn0 := hym j n0 hyn
    refine j_iload_n (pc := 15) X dX10_trial_15 rfl 3 rfl ?_
    refine j_iconst (pc := 16) X (v := nI 2) dX10_trial_16 (by decide) ?_
    refine j_icmp_lt (pc := 17) X (x := n) (z := nI 2) (tgt := 26) dX10_trial_17 (by decide) (fun c_17 => ?_) (fun c_17 => ?_)
    · skip
      have hq_a : n < nI 2 ∨ nI 16 < n := Or.inl c_17
      refine j_iconst (pc := 26) X (v := nI 5) dX10_trial_26 (by decide) ?_
      exact j_iret (pc := 27) X dX10_trial_27 ⟨by first | (simp [trF, tN, hq_j, hq_t, hq_a, ne_eq]; done) | (simp [trF, tN, hq_j, hq_t, hq_a, c_9, c_17]; done) | (have hq_u : ¬ tfF (msO ym) x = 0 := (by omega); simp [trF, hq_u]; done), rfl⟩
    · skip
      refine j_iload_n (pc := 20) X dX10_trial_20 rfl 3 rfl ?_
      refine j_bipush (pc := 21) X (v := nI 16) dX10_trial_21 (by decide) ?_
      refine j_icmp_le (pc := 23) X (x := n) (z := nI 16) (tgt := 28) dX10_trial_23 (by decide) (fun c_23 => ?_) (fun c_23 => ?_)
      · skip
        obtain ⟨m, hm2, hm16, rfl⟩ := rng_of2 c_17 c_23; have hq_m := nI_clamp (n := m) (by omega); have hq_a : ¬ (nI m < nI 2 ∨ nI 16 < nI m) := (fun h9 => h9.elim c_17 (Int32.not_lt.mpr c_23))
        refine j_iload_n (pc := 28) X dX10_trial_28 rfl 3 rfl ?_
        refine j_aload_n (pc := 29) X dX10_trial_29 rfl 1 rfl ?_
        refine j_get (pc := 30) X 10 i_X10 0 rfl rfl 5 (by decide) (by decide +kernel) rfl dX10_trial_30 ?_
        refine j_iload_n (pc := 33) X dX10_trial_33 rfl 2 rfl ?_
        refine j_iald (pc := 34) X 1 rfl (vp_in_nI (by omega) (by decide)) (v := nI n0) ((congrArg (oF ym) (nI_clamp (by omega))).trans ((by show oI (ym j) = nI n0; rw [hyn]; rfl))) dX10_trial_34 ?_
        refine j_icmpN_le (pc := 35) X (a := m) (b := n0) (by first | omega | (have h9 := tfF_le (msO ym) x; omega)) (by first | omega | (have h9 := tfF_le (msO ym) x; omega)) (tgt := 40) dX10_trial_35 (by decide) (fun c_35 => ?_) (fun c_35 => ?_)
        · skip
          have hq_h : hasP (nI 0) (nI m) (lnO ym j) = true := (by rw [lnO_s hyn, hasP_0 (by omega) (by omega)]; exact decide_eq_true c_35)
          refine j_iload_n (pc := 40) X dX10_trial_40 rfl 4 rfl ?_
          refine j_iconst (pc := 41) X (v := nI 1) dX10_trial_41 (by decide) ?_
          refine j_icmp_lt (pc := 42) X (x := s) (z := nI 1) (tgt := 54) dX10_trial_42 (by decide) (fun c_42 => ?_) (fun c_42 => ?_)
          · skip
            have hq_s : s ≤ 0 ∨ nI (2 ^ m - 1) ≤ s := Or.inl (lt1_le0.mp c_42)
            refine j_iconst (pc := 54) X (v := nI 5) dX10_trial_54 (by decide) ?_
            exact j_iret (pc := 55) X dX10_trial_55 ⟨by first | (simp [trF, tN, hq_j, hq_t, hq_m, hq_a, hq_h, hq_s, ne_eq]; done) | (simp [trF, tN, hq_j, hq_t, hq_m, hq_a, hq_h, hq_s, c_9, c_17, c_23, c_35, c_42]; done) | (have hq_u : ¬ tfF (msO ym) x = 0 := (by omega); simp [trF, hq_u]; done), rfl⟩
          · skip
            refine j_iload_n (pc := 45) X dX10_trial_45 rfl 4 rfl ?_
            refine j_iconst (pc := 46) X (v := nI 1) dX10_trial_46 (by decide) ?_
            refine j_iload_n (pc := 47) X dX10_trial_47 rfl 3 rfl ?_
            refine j_ishl (pc := 48) X dX10_trial_48 ?_
            refine j_topi (z := nI (2 ^ m)) (shl1 (by omega)) ?_
            refine j_iconst (pc := 49) X (v := nI 1) dX10_trial_49 (by decide) ?_
            refine j_isub (pc := 50) X dX10_trial_50 ?_
            refine j_topi (z := nI (2 ^ m - 1)) (pk_sub (by exact Nat.one_le_two_pow)) ?_
            refine j_icmp_lt (pc := 51) X (x := s) (z := nI (2 ^ m - 1)) (tgt := 56) dX10_trial_51 (by decide) (fun c_51 => ?_) (fun c_51 => ?_)
            · skip
              have hp16 := two_pow_le hm16; obtain ⟨t, ht, rfl⟩ := nI_of (x := s) (fun h9 => c_42 (lt1_le0.mpr (Int32.le_of_lt h9))); have hq_s : ¬ (nI t ≤ 0 ∨ nI (2 ^ m - 1) ≤ nI t) := (fun h9 => h9.elim (fun h8 => c_42 (lt1_le0.mpr h8)) (Int32.not_le.mpr c_51))
              refine j_iconst (pc := 56) X (v := nI 0) dX10_trial_56 (by decide) ?_
              refine j_istore (pc := 57) X (lv' := [(5, .int (nI 0)), (4, .int (nI (tfF (msO ym) (nI j)))), (0, .ref z), (1, .int (nI j)), (2, .int (nI m)), (3, .int (nI t))]) dX10_trial_57 (by decide) rfl ?_
              refine j_lv [2, 3, 4, 0] (lv' := [(0, .ref z), (1, .int (nI j)), (2, .int (nI m)), (5, .int (nI 0))]) rfl ?_
              exact mX10_trial_L59 l G z z4 z5 z6 z9 z10 z11 z12 z14 z15 z16 z19 z20 z21 z22 z23 z25 z26 z27 z28 z30 z31 z32 st th za zb el be gz mm tt gm rn ym nu (nI j) (nI m) (nI t) hym κ X    (m - 0 + 1) j m t n0 0 (rfl) (rfl) (rfl) (by omega) (by omega) (by omega) (by omega) (by omega) (by rfl) (by simp [trF, tN, hq_j, hq_m, hq_t, hq_a, hq_h, hq_s]) (Nat.lt_succ_self _)
            · skip
              have hq_s : s ≤ 0 ∨ nI (2 ^ m - 1) ≤ s := Or.inr (Int32.not_lt.mp c_51)
              refine j_iconst (pc := 54) X (v := nI 5) dX10_trial_54 (by decide) ?_
              exact j_iret (pc := 55) X dX10_trial_55 ⟨by first | (simp [trF, tN, hq_j, hq_t, hq_m, hq_a, hq_h, hq_s, ne_eq]; done) | (simp [trF, tN, hq_j, hq_t, hq_m, hq_a, hq_h, hq_s, c_9, c_17, c_23, c_35, c_42, c_51]; done) | (have hq_u : ¬ tfF (msO ym) x = 0 := (by omega); simp [trF, hq_u]; done), rfl⟩
        · skip
          have hq_h : hasP (nI 0) (nI m) (lnO ym j) = false := (by rw [lnO_s hyn, hasP_0 (by omega) (by omega)]; exact decide_eq_false c_35)
          refine j_iconst (pc := 38) X (v := nI 4) dX10_trial_38 (by decide) ?_
          exact j_iret (pc := 39) X dX10_trial_39 ⟨by first | (simp [trF, tN, hq_j, hq_t, hq_m, hq_a, hq_h, ne_eq]; done) | (simp [trF, tN, hq_j, hq_t, hq_m, hq_a, hq_h, c_9, c_17, c_23, c_35]; done) | (have hq_u : ¬ tfF (msO ym) x = 0 := (by omega); simp [trF, hq_u]; done), rfl⟩
      · skip
        have hq_a : n < nI 2 ∨ nI 16 < n := Or.inr (Int32.not_le.mp c_23)
        refine j_iconst (pc := 26) X (v := nI 5) dX10_trial_26 (by decide) ?_
        exact j_iret (pc := 27) X dX10_trial_27 ⟨by first | (simp [trF, tN, hq_j, hq_t, hq_a, ne_eq]; done) | (simp [trF, tN, hq_j, hq_t, hq_a, c_9, c_17, c_23]; done) | (have hq_u : ¬ tfF (msO ym) x = 0 := (by omega); simp [trF, hq_u]; done), rfl⟩
  · skip
    refine j_iload (pc := 12) X dX10_trial_12 0 rfl ?_
    exact j_iret (pc := 14) X dX10_trial_14 ⟨by first | (simp [trF, tN, ne_eq]; done) | (simp [trF, tN, c_9]; done) | (have hq_u : ¬ tfF (msO ym) x = 0 := (by omega); simp [trF, hq_u]; done), rfl⟩

set_option maxHeartbeats 4000000 in
set_option maxRecDepth 100000 in
theorem mX10_sumOf_L6 (l : Launch) (G : jG) (z : Nat) (z4 : Nat) (z5 : Nat) (z6 : Nat) (z9 : Nat) (z10 : Nat) (z11 : Nat) (z12 : Nat) (z14 : Nat) (z15 : Nat) (z16 : Nat) (z19 : Nat) (z20 : Nat) (z21 : Nat) (z22 : Nat) (z23 : Nat) (z25 : Nat) (z26 : Nat) (z27 : Nat) (z28 : Nat) (z30 : Nat) (z31 : Nat) (z32 : Nat) (st : Nat) (th : Nat) (za : Int64) (zb : Int64) (el : Nat) (be : Nat) (gz : Bool) (mm : Nat) (tt : Nat) (gm : Nat) (rn : Nat) (nu : Nat → Int64) (j : Nat) (m : Nat) (s : Nat) (hj : j < 4) (hm : m ≤ 16) (hs : s < 65536) (ho : outc (nuT nu j) m = true) (κ : jK) (X : CX κ l yX10_sumOf cX10_sumOf 6 RX10 wsX10_sumOf (some .int) ({ frames := 0, cells := 0, slots := 0, locals := 0 }) G (va_A [(z, .inr (10, [.int (nI st), .int (nI th), .long za, .long zb, .ref z4, .ref z5, .ref z6, .int (nI el), .int (nI be), .ref z9, .ref z10, .ref z11, .ref z12, .int (b2i gz), .ref z14, .ref z15, .ref z16, .int (nI mm), .int (nI tt), .ref z19, .ref z20, .ref z21, .ref z22, .ref z23, .int (nI gm), .ref z25, .ref z26, .ref z27, .ref z28, .int (nI rn), .ref z30, .ref z31, .ref z32])), kJ G z6 160 nu] (js κ).heap.size))    : ∀ (fu : Nat) (k : Nat) (hk : k ≤ m) (_ : m - k < fu), JJ κ 6 G (va_A [(z, .inr (10, [.int (nI st), .int (nI th), .long za, .long zb, .ref z4, .ref z5, .ref z6, .int (nI el), .int (nI be), .ref z9, .ref z10, .ref z11, .ref z12, .int (b2i gz), .ref z14, .ref z15, .ref z16, .int (nI mm), .int (nI tt), .ref z19, .ref z20, .ref z21, .ref z22, .ref z23, .int (nI gm), .ref z25, .ref z26, .ref z27, .ref z28, .int (nI rn), .ref z30, .ref z31, .ref z32])), kJ G z6 160 nu] (js κ).heap.size) 0 0 (jQ κ G [(z, .inr (10, [.int (nI st), .int (nI th), .long za, .long zb, .ref z4, .ref z5, .ref z6, .int (nI el), .int (nI be), .ref z9, .ref z10, .ref z11, .ref z12, .int (b2i gz), .ref z14, .ref z15, .ref z16, .int (nI mm), .int (nI tt), .ref z19, .ref z20, .ref z21, .ref z22, .ref z23, .int (nI gm), .ref z25, .ref z26, .ref z27, .ref z28, .int (nI rn), .ref z30, .ref z31, .ref z32])), kJ G z6 160 nu] (fun r w' => r = some (.int (nI (wsm (nuT nu j) s m))) ∧ w' = [(z, .inr (10, [.int (nI st), .int (nI th), .long za, .long zb, .ref z4, .ref z5, .ref z6, .int (nI el), .int (nI be), .ref z9, .ref z10, .ref z11, .ref z12, .int (b2i gz), .ref z14, .ref z15, .ref z16, .int (nI mm), .int (nI tt), .ref z19, .ref z20, .ref z21, .ref z22, .ref z23, .int (nI gm), .ref z25, .ref z26, .ref z27, .ref z28, .int (nI rn), .ref z30, .ref z31, .ref z32])), kJ G z6 160 nu]) 0 0) 6 [(0, .ref z), (1, .int (nI j)), (2, .int (nI m)), (3, .int (nI s)), (4, .int (nI (wsm (nuT nu j) s k))), (5, .int (nI k))] [] [(z, .inr (10, [.int (nI st), .int (nI th), .long za, .long zb, .ref z4, .ref z5, .ref z6, .int (nI el), .int (nI be), .ref z9, .ref z10, .ref z11, .ref z12, .int (b2i gz), .ref z14, .ref z15, .ref z16, .int (nI mm), .int (nI tt), .ref z19, .ref z20, .ref z21, .ref z22, .ref z23, .int (nI gm), .ref z25, .ref z26, .ref z27, .ref z28, .int (nI rn), .ref z30, .ref z31, .ref z32])), kJ G z6 160 nu] := by
  have i_X10 : ∀ w ∈ wsX100, w ∈ wsX10_sumOf := by decide +kernel
  intro fu
  induction fu with
  | zero => intro k hk hms; exact absurd hms (Nat.not_lt_zero _)
  | succ fu ih =>
    intro k hk hms
    refine j_iload (pc := 6) X dX10_sumOf_6 5 rfl ?_
    refine j_iload_n (pc := 8) X dX10_sumOf_8 rfl 2 rfl ?_
    refine j_icmpN_ge (pc := 9) X (a := k) (b := m) (by first | omega | (have h9 := Nat.mod_lt (s / 2 ^ k) (show 0 < 2 by decide); omega)) (by first | omega | (have h9 := Nat.mod_lt (s / 2 ^ k) (show 0 < 2 by decide); omega)) (tgt := 50) dX10_sumOf_9 (by decide) (fun c_9 => ?_) (fun c_9 => ?_)
    · skip
      refine j_iload (pc := 50) X dX10_sumOf_50 4 rfl ?_
      exact j_iret (pc := 52) X dX10_sumOf_52 ⟨by rw [show k = m by omega], rfl⟩
    · skip
      refine j_iload (pc := 12) X dX10_sumOf_12 4 rfl ?_
      refine j_iload_n (pc := 14) X dX10_sumOf_14 rfl 3 rfl ?_
      refine j_iload (pc := 15) X dX10_sumOf_15 5 rfl ?_
      refine j_ishr (pc := 17) X dX10_sumOf_17 ?_
      refine j_topi (z := nI (s / 2 ^ k)) (bit_at hs (by omega)) ?_
      refine j_iconst (pc := 18) X (v := nI 1) dX10_sumOf_18 (by decide) ?_
      refine j_iand (pc := 19) X dX10_sumOf_19 ?_
      refine j_topi (z := nI (s / 2 ^ k % 2)) (pk_andN (by have h9 := Nat.div_le_self s (2 ^ k); omega) 1 (by decide)) ?_
      refine j_iconst (pc := 20) X (v := nI 1) dX10_sumOf_20 (by decide) ?_
      refine j_icmpN_ne (pc := 21) X (a := (s / 2 ^ k % 2)) (b := 1) (by first | omega | (have h9 := Nat.mod_lt (s / 2 ^ k) (show 0 < 2 by decide); omega)) (by first | omega | (have h9 := Nat.mod_lt (s / 2 ^ k) (show 0 < 2 by decide); omega)) (tgt := 40) dX10_sumOf_21 (by decide) (fun c_21 => ?_) (fun c_21 => ?_)
      · skip
        refine j_iconst (pc := 40) X (v := nI 0) dX10_sumOf_40 (by decide) ?_
        refine j_iadd (pc := 41) X dX10_sumOf_41 ?_
        refine j_topi (z := nI (wsm (nuT nu j) s k + 0)) (nI_add _ _) ?_
        refine j_istore (pc := 42) X (lv' := [(4, .int (nI (wsm (nuT nu j) s k + 0))), (0, .ref z), (1, .int (nI j)), (2, .int (nI m)), (3, .int (nI s)), (5, .int (nI k))]) dX10_sumOf_42 (by decide) rfl ?_
        refine j_iinc (pc := 44) X (v := nI (k + 1)) (lv' := [(5, .int (nI (k + 1))), (4, .int (nI (wsm (nuT nu j) s k + 0))), (0, .ref z), (1, .int (nI j)), (2, .int (nI m)), (3, .int (nI s))]) dX10_sumOf_44 5 rfl (nI_1 _) (by decide) rfl ?_
        refine j_goto (pc := 47) X (tgt := 6) dX10_sumOf_47 (by decide) ?_
        refine j_lv [2, 3, 4, 5, 1, 0] (lv' := [(0, .ref z), (1, .int (nI j)), (2, .int (nI m)), (3, .int (nI s)), (4, .int (nI (wsm (nuT nu j) s k + 0))), (5, .int (nI (k + 1)))]) rfl ?_
        refine j_lvq (lv' := [(0, .ref z), (1, .int (nI j)), (2, .int (nI m)), (3, .int (nI s)), (4, .int (nI (wsm (nuT nu j) s (k + 1)))), (5, .int (nI (k + 1)))]) ?_ ?_
        · rw [show (wsm (nuT nu j) s k + 0) = wsm (nuT nu j) s (k + 1) from by (simp only [wsm]; first | rw [if_pos ((bit_1 s k).mp c_21)] | (rw [if_neg (fun h9 => c_21 ((bit_1 s k).mpr h9))]))]
        exact ih (k + 1) (by omega) (by omega)
      · skip
        refine j_aload_n (pc := 24) X dX10_sumOf_24 rfl 0 rfl ?_
        refine j_get (pc := 25) X 10 i_X10 0 rfl rfl 6 (by decide) (by decide +kernel) rfl dX10_sumOf_25 ?_
        refine j_bipush (pc := 28) X (v := nI 40) dX10_sumOf_28 (by decide) ?_
        refine j_iload_n (pc := 30) X dX10_sumOf_30 rfl 1 rfl ?_
        refine j_imul (pc := 31) X dX10_sumOf_31 ?_
        refine j_topi (z := nI (40 * j)) (pk_mul _ _) ?_
        refine j_iload (pc := 32) X dX10_sumOf_32 5 rfl ?_
        refine j_iadd (pc := 34) X dX10_sumOf_34 ?_
        refine j_topi (z := nI (40 * j + k)) (nI_add _ _) ?_
        refine j_lald (pc := 35) X 1 rfl (vp_in_nI (by omega) (by decide)) (v := lN (ww (nuT nu j) k)) ((congrArg nu (nI_clamp (by omega))).trans ((outc_at ho k (by omega)).1)) dX10_sumOf_35 ?_
        refine j_l2i (pc := 36) X (v := nI (ww (nuT nu j) k)) dX10_sumOf_36 (lN_i _) ?_
        refine j_goto (pc := 37) X (tgt := 41) dX10_sumOf_37 (by decide) ?_
        refine j_iadd (pc := 41) X dX10_sumOf_41 ?_
        refine j_topi (z := nI (wsm (nuT nu j) s k + ww (nuT nu j) k)) (nI_add _ _) ?_
        refine j_istore (pc := 42) X (lv' := [(4, .int (nI (wsm (nuT nu j) s k + ww (nuT nu j) k))), (0, .ref z), (1, .int (nI j)), (2, .int (nI m)), (3, .int (nI s)), (5, .int (nI k))]) dX10_sumOf_42 (by decide) rfl ?_
        refine j_iinc (pc := 44) X (v := nI (k + 1)) (lv' := [(5, .int (nI (k + 1))), (4, .int (nI (wsm (nuT nu j) s k + ww (nuT nu j) k))), (0, .ref z), (1, .int (nI j)), (2, .int (nI m)), (3, .int (nI s))]) dX10_sumOf_44 5 rfl (nI_1 _) (by decide) rfl ?_
        refine j_goto (pc := 47) X (tgt := 6) dX10_sumOf_47 (by decide) ?_
        refine j_lv [2, 3, 4, 5, 1, 0] (lv' := [(0, .ref z), (1, .int (nI j)), (2, .int (nI m)), (3, .int (nI s)), (4, .int (nI (wsm (nuT nu j) s k + ww (nuT nu j) k))), (5, .int (nI (k + 1)))]) rfl ?_
        refine j_lvq (lv' := [(0, .ref z), (1, .int (nI j)), (2, .int (nI m)), (3, .int (nI s)), (4, .int (nI (wsm (nuT nu j) s (k + 1)))), (5, .int (nI (k + 1)))]) ?_ ?_
        · rw [show (wsm (nuT nu j) s k + ww (nuT nu j) k) = wsm (nuT nu j) s (k + 1) from by (simp only [wsm]; first | rw [if_pos ((bit_1 s k).mp c_21)] | (rw [if_neg (fun h9 => c_21 ((bit_1 s k).mpr h9))]))]
        exact ih (k + 1) (by omega) (by omega)
set_option maxHeartbeats 4000000 in
set_option maxRecDepth 100000 in
theorem mX10_sumOf (l : Launch) (G : jG) (z : Nat) (z4 : Nat) (z5 : Nat) (z6 : Nat) (z9 : Nat) (z10 : Nat) (z11 : Nat) (z12 : Nat) (z14 : Nat) (z15 : Nat) (z16 : Nat) (z19 : Nat) (z20 : Nat) (z21 : Nat) (z22 : Nat) (z23 : Nat) (z25 : Nat) (z26 : Nat) (z27 : Nat) (z28 : Nat) (z30 : Nat) (z31 : Nat) (z32 : Nat) (st : Nat) (th : Nat) (za : Int64) (zb : Int64) (el : Nat) (be : Nat) (gz : Bool) (mm : Nat) (tt : Nat) (gm : Nat) (rn : Nat) (nu : Nat → Int64) (j : Nat) (m : Nat) (s : Nat) (hj : j < 4) (hm : m ≤ 16) (hs : s < 65536) (ho : outc (nuT nu j) m = true) : MV l yX10_sumOf wsX10_sumOf ({ frames := 0, cells := 0, slots := 0, locals := 0 }) G [.ref z, .int (nI j), .int (nI m), .int (nI s)] [(z, .inr (10, [.int (nI st), .int (nI th), .long za, .long zb, .ref z4, .ref z5, .ref z6, .int (nI el), .int (nI be), .ref z9, .ref z10, .ref z11, .ref z12, .int (b2i gz), .ref z14, .ref z15, .ref z16, .int (nI mm), .int (nI tt), .ref z19, .ref z20, .ref z21, .ref z22, .ref z23, .int (nI gm), .ref z25, .ref z26, .ref z27, .ref z28, .int (nI rn), .ref z30, .ref z31, .ref z32])), kJ G z6 160 nu] (some (.int (nI (wsm (nuT nu j) s m)))) [(z, .inr (10, [.int (nI st), .int (nI th), .long za, .long zb, .ref z4, .ref z5, .ref z6, .int (nI el), .int (nI be), .ref z9, .ref z10, .ref z11, .ref z12, .int (b2i gz), .ref z14, .ref z15, .ref z16, .int (nI mm), .int (nI tt), .ref z19, .ref z20, .ref z21, .ref z22, .ref z23, .int (nI gm), .ref z25, .ref z26, .ref z27, .ref z28, .int (nI rn), .ref z30, .ref z31, .ref z32])), kJ G z6 160 nu] := by
  refine MF.ofJ (cc := cX10_sumOf) (maxL := 6) (ret := (some .int)) (own := RX10) (lv := [(0, .ref z), (1, .int (nI j)), (2, .int (nI m)), (3, .int (nI s))]) (by decide) rfl rfl (Nat.le_of_ble_eq_true rfl) rfl ?_
  intro κ X
  have i_X10 : ∀ w ∈ wsX100, w ∈ wsX10_sumOf := by decide +kernel
  refine j_iconst (pc := 0) X (v := nI 0) dX10_sumOf_0 (by decide) ?_
  refine j_istore (pc := 1) X (lv' := [(4, .int (nI 0)), (0, .ref z), (1, .int (nI j)), (2, .int (nI m)), (3, .int (nI s))]) dX10_sumOf_1 (by decide) rfl ?_
  refine j_iconst (pc := 3) X (v := nI 0) dX10_sumOf_3 (by decide) ?_
  refine j_istore (pc := 4) X (lv' := [(5, .int (nI 0)), (4, .int (nI 0)), (0, .ref z), (1, .int (nI j)), (2, .int (nI m)), (3, .int (nI s))]) dX10_sumOf_4 (by decide) rfl ?_
  refine j_lv [2, 3, 4, 5, 1, 0] (lv' := [(0, .ref z), (1, .int (nI j)), (2, .int (nI m)), (3, .int (nI s)), (4, .int (nI 0)), (5, .int (nI 0))]) rfl ?_
  refine j_lvq (lv' := [(0, .ref z), (1, .int (nI j)), (2, .int (nI m)), (3, .int (nI s)), (4, .int (nI (wsm (nuT nu j) s 0))), (5, .int (nI 0))]) ?_ ?_
  · first | rfl | (rw [show (0) = wsm (nuT nu j) s 0 from by (simp only [wsm]; first | rw [if_pos ((bit_1 s k).mp c_21)] | (rw [if_neg (fun h9 => c_21 ((bit_1 s k).mpr h9))]))])
  exact mX10_sumOf_L6 l G z z4 z5 z6 z9 z10 z11 z12 z14 z15 z16 z19 z20 z21 z22 z23 z25 z26 z27 z28 z30 z31 z32 st th za zb el be gz mm tt gm rn nu j m s hj hm hs ho κ X    (m - 0 + 1) 0 (by omega) (Nat.lt_succ_self _)

set_option maxHeartbeats 4000000 in
set_option maxRecDepth 100000 in
theorem mX10_gain (l : Launch) (G : jG) (z : Nat) (z4 : Nat) (z5 : Nat) (z6 : Nat) (z9 : Nat) (z10 : Nat) (z11 : Nat) (z12 : Nat) (z14 : Nat) (z15 : Nat) (z16 : Nat) (z19 : Nat) (z20 : Nat) (z21 : Nat) (z22 : Nat) (z23 : Nat) (z25 : Nat) (z26 : Nat) (z27 : Nat) (z28 : Nat) (z30 : Nat) (z31 : Nat) (z32 : Nat) (st : Nat) (th : Nat) (za : Int64) (zb : Int64) (el : Nat) (be : Nat) (gz : Bool) (mm : Nat) (tt : Nat) (gm : Nat) (rn : Nat) (ym : Nat → Option Nat) (nu : Nat → Int64) (x : Int32) (n : Int32) (s : Int32) (hym : ∀ k, ob 41 (ym k)) : MV l yX10_gain wsX10_gain ({ frames := 3, cells := 0, slots := 0, locals := 76 }) G [.ref z, .int x, .int n, .int s] [(z, .inr (10, [.int (nI st), .int (nI th), .long za, .long zb, .ref z4, .ref z5, .ref z6, .int (nI el), .int (nI be), .ref z9, .ref z10, .ref z11, .ref z12, .int (b2i gz), .ref z14, .ref z15, .ref z16, .int (nI mm), .int (nI tt), .ref z19, .ref z20, .ref z21, .ref z22, .ref z23, .int (nI gm), .ref z25, .ref z26, .ref z27, .ref z28, .int (nI rn), .ref z30, .ref z31, .ref z32])), kI G z5 4 (oF ym), kJ G z6 160 nu] (some (.int (b2i ((sGainM ym nu za zb x n s).1)))) [(z, .inr (10, [.int (nI ((sGainM ym nu za zb x n s).2.1)), .int (nI 0), .long ((sGainM ym nu za zb x n s).2.2.1), .long ((sGainM ym nu za zb x n s).2.2.2), .ref z4, .ref z5, .ref z6, .int (nI el), .int (nI be), .ref z9, .ref z10, .ref z11, .ref z12, .int (b2i gz), .ref z14, .ref z15, .ref z16, .int (nI mm), .int (nI tt), .ref z19, .ref z20, .ref z21, .ref z22, .ref z23, .int (nI gm), .ref z25, .ref z26, .ref z27, .ref z28, .int (nI rn), .ref z30, .ref z31, .ref z32])), kI G z5 4 (oF ym), kJ G z6 160 nu] := by
  refine MF.ofJ (cc := cX10_gain) (maxL := 9) (ret := (some .boolean)) (own := RX10) (lv := [(0, .ref z), (1, .int x), (2, .int n), (3, .int s)]) (by decide) rfl rfl (Nat.le_of_ble_eq_true rfl) rfl ?_
  intro κ X
  have i_X10 : ∀ w ∈ wsX100, w ∈ wsX10_gain := by decide +kernel
  refine j_aload_n (pc := 0) X dX10_gain_0 rfl 0 rfl ?_
  refine j_iconst (pc := 1) X (v := nI 0) dX10_gain_1 (by decide) ?_
  refine j_put (pc := 2) X (v := .int (nI 0)) (ws' := [(z, .inr (10, [.int (nI st), .int (nI 0), .long za, .long zb, .ref z4, .ref z5, .ref z6, .int (nI el), .int (nI be), .ref z9, .ref z10, .ref z11, .ref z12, .int (b2i gz), .ref z14, .ref z15, .ref z16, .int (nI mm), .int (nI tt), .ref z19, .ref z20, .ref z21, .ref z22, .ref z23, .int (nI gm), .ref z25, .ref z26, .ref z27, .ref z28, .int (nI rn), .ref z30, .ref z31, .ref z32])), kI G z5 4 (oF ym), kJ G z6 160 nu]) 10 i_X10 tyX10 tyX10_ok nmX10 0 rfl rfl 1 (by decide) (by decide +kernel) (by decide) (rfl) (rfl) (Nat.le_of_ble_eq_true rfl) dX10_gain_2 rfl ?_
  refine j_aload_n (pc := 5) X dX10_gain_5 rfl 0 rfl ?_
  refine j_aload_n (pc := 6) X dX10_gain_6 rfl 0 rfl ?_
  refine j_iload_n (pc := 7) X dX10_gain_7 rfl 1 rfl ?_
  refine j_iload_n (pc := 8) X dX10_gain_8 rfl 2 rfl ?_
  refine j_iload_n (pc := 9) X dX10_gain_9 rfl 3 rfl ?_
  refine j_ciP (pc := 10) X [0, 1, 2] rfl (j_rV X (b := z) (As := [.int x, .int n, .int s]) (ci := 10) (rest := [.ref z]) 3 (mX10_trial l G z z4 z5 z6 z9 z10 z11 z12 z14 z15 z16 z19 z20 z21 z22 z23 z25 z26 z27 z28 z30 z31 z32 st 0 za zb el be gz mm tt gm rn ym nu x n s (by first | assumption | omega | exact ob_s (by omega) | exact ob_n)) gX10_gain_X10_trial rfl rfl rfl (by decide +kernel) ⟨Nat.le_of_ble_eq_true rfl, Nat.le_of_ble_eq_true rfl⟩ rfl rfl 0 rfl [0, 1, 2] rfl rfl rfl (Nat.le_of_ble_eq_true rfl) dX10_gain_10 ⟨Nat.le_of_ble_eq_true rfl, Nat.le_of_ble_eq_true rfl⟩) ?_
  refine j_put (pc := 13) X (v := .int (nI (trF (msO ym) (lnO ym) (nuT nu) x n s))) (ws' := [(z, .inr (10, [.int (nI (trF (msO ym) (lnO ym) (nuT nu) x n s)), .int (nI 0), .long za, .long zb, .ref z4, .ref z5, .ref z6, .int (nI el), .int (nI be), .ref z9, .ref z10, .ref z11, .ref z12, .int (b2i gz), .ref z14, .ref z15, .ref z16, .int (nI mm), .int (nI tt), .ref z19, .ref z20, .ref z21, .ref z22, .ref z23, .int (nI gm), .ref z25, .ref z26, .ref z27, .ref z28, .int (nI rn), .ref z30, .ref z31, .ref z32])), kI G z5 4 (oF ym), kJ G z6 160 nu]) 10 i_X10 tyX10 tyX10_ok nmX10 0 rfl rfl 0 (by decide) (by decide +kernel) (by decide) (rfl) (rfl) (Nat.le_of_ble_eq_true rfl) dX10_gain_13 rfl ?_
  refine j_aload_n (pc := 16) X dX10_gain_16 rfl 0 rfl ?_
  refine j_get (pc := 17) X 10 i_X10 0 rfl rfl 0 (by decide) (by decide +kernel) rfl dX10_gain_17 ?_
  refine j_ifN_le (pc := 20) X (a := (trF (msO ym) (lnO ym) (nuT nu) x n s)) (by first | omega | (have h9 := trF_le (msO ym) (lnO ym) (nuT nu) x n s; omega)) (tgt := 25) dX10_gain_20 (by decide) (fun c_20 => ?_) (fun c_20 => ?_)
  · skip
    obtain ⟨j, m, t, hj, rfl, hmsj, hm2, hm16, rfl, hmln, ht0, ht, rfl, hou⟩ := trF_0 (lnO_le hym) (Nat.le_zero.mp c_20); have hp16 := two_pow_le hm16; have hq_j := nI_clamp (n := j) (by omega); have hq_m := nI_clamp (n := m) (by omega); have hq_t := nI_clamp (n := t) (by omega); have hq_z : trF (msO ym) (lnO ym) (nuT nu) (nI j) (nI m) (nI t) = 0 := Nat.le_zero.mp c_20; have hgn := gn_ok hm16 hou ht0 ht
    refine j_iload_n (pc := 25) X dX10_gain_25 rfl 3 rfl ?_
    refine j_ciP (pc := 26) X [] rfl (j_rS X (As := [.int (nI t)]) (rest := []) 1 (mJ6_bitCount_0f7a4 l G (nI t) ) gX10_gain_J6_bitCount_0f7a4 rfl rfl rfl (by decide +kernel) ⟨Nat.le_of_ble_eq_true rfl, Nat.le_of_ble_eq_true rfl⟩ rfl [] rfl rfl rfl (Nat.le_of_ble_eq_true rfl) dX10_gain_26 ⟨Nat.le_of_ble_eq_true rfl, Nat.le_of_ble_eq_true rfl⟩) ?_
    refine j_topi (z := nI (pcn t 16)) (hgn.1) ?_
    refine j_istore (pc := 29) X (lv' := [(4, .int (nI (pcn t 16))), (0, .ref z), (1, .int (nI j)), (2, .int (nI m)), (3, .int (nI t))]) dX10_gain_29 (by decide) rfl ?_
    refine j_aload_n (pc := 31) X dX10_gain_31 rfl 1 rfl ?_
    refine j_iload_n (pc := 32) X dX10_gain_32 rfl 2 rfl ?_
    refine j_iload_n (pc := 33) X dX10_gain_33 rfl 3 rfl ?_
    refine j_iload_n (pc := 34) X dX10_gain_34 rfl 4 rfl ?_
    refine j_ciP (pc := 35) X [0, 2] rfl (j_rV X (b := z) (As := [.int (nI j), .int (nI m), .int (nI t)]) (ci := 10) (rest := []) 3 (mX10_sumOf l G z z4 z5 z6 z9 z10 z11 z12 z14 z15 z16 z19 z20 z21 z22 z23 z25 z26 z27 z28 z30 z31 z32 (trF (msO ym) (lnO ym) (nuT nu) (nI j) (nI m) (nI t)) 0 za zb el be gz mm tt gm rn nu j m t (by first | assumption | omega | exact ob_s (by omega) | exact ob_n) (by first | assumption | omega | exact ob_s (by omega) | exact ob_n) (by first | assumption | omega | exact ob_s (by omega) | exact ob_n) (by exact hou)) gX10_gain_X10_sumOf rfl rfl rfl (by decide +kernel) ⟨Nat.le_of_ble_eq_true rfl, Nat.le_of_ble_eq_true rfl⟩ rfl rfl 0 rfl [0, 2] rfl rfl rfl (Nat.le_of_ble_eq_true rfl) dX10_gain_35 ⟨Nat.le_of_ble_eq_true rfl, Nat.le_of_ble_eq_true rfl⟩) ?_
    refine j_i2l (pc := 38) X (v := lN (wsm (nuT nu j) t m)) dX10_gain_38 (nI_l (by have h9 := wsm_le (nuT nu j) t m (fun i hi => (outc_at hou i hi).2); omega)) ?_
    refine j_lstore (pc := 39) X (lv' := [(5, .long (lN (wsm (nuT nu j) t m))), (4, .int (nI (pcn t 16))), (0, .ref z), (1, .int (nI j)), (2, .int (nI m)), (3, .int (nI t))]) dX10_gain_39 (by decide) rfl ?_
    refine j_aload_n (pc := 41) X dX10_gain_41 rfl 2 rfl ?_
    refine j_iload_n (pc := 42) X dX10_gain_42 rfl 3 rfl ?_
    refine j_iload_n (pc := 43) X dX10_gain_43 rfl 4 rfl ?_
    refine j_iconst (pc := 44) X (v := nI 1) dX10_gain_44 (by decide) ?_
    refine j_iload_n (pc := 45) X dX10_gain_45 rfl 4 rfl ?_
    refine j_ishl (pc := 46) X dX10_gain_46 ?_
    refine j_topi (z := nI (2 ^ m)) (shl1 (by omega)) ?_
    refine j_iconst (pc := 47) X (v := nI 1) dX10_gain_47 (by decide) ?_
    refine j_isub (pc := 48) X dX10_gain_48 ?_
    refine j_topi (z := nI (2 ^ m - 1)) (pk_sub (by exact Nat.one_le_two_pow)) ?_
    refine j_iload_n (pc := 49) X dX10_gain_49 rfl 5 rfl ?_
    refine j_ixor (pc := 50) X dX10_gain_50 ?_
    refine j_topi (z := nI ((2 ^ m - 1) ^^^ t)) (nI_xor _ _) ?_
    refine j_ciP (pc := 51) X [0, 2] rfl (j_rV X (b := z) (As := [.int (nI j), .int (nI m), .int (nI ((2 ^ m - 1) ^^^ t))]) (ci := 10) (rest := []) 3 (mX10_sumOf l G z z4 z5 z6 z9 z10 z11 z12 z14 z15 z16 z19 z20 z21 z22 z23 z25 z26 z27 z28 z30 z31 z32 (trF (msO ym) (lnO ym) (nuT nu) (nI j) (nI m) (nI t)) 0 za zb el be gz mm tt gm rn nu j m ((2 ^ m - 1) ^^^ t) (by first | assumption | omega | exact ob_s (by omega) | exact ob_n) (by first | assumption | omega | exact ob_s (by omega) | exact ob_n) (by exact Nat.xor_lt_two_pow (n := 16) (by omega) (by omega)) (by exact hou)) gX10_gain_X10_sumOf rfl rfl rfl (by decide +kernel) ⟨Nat.le_of_ble_eq_true rfl, Nat.le_of_ble_eq_true rfl⟩ rfl rfl 0 rfl [0, 2] rfl rfl rfl (Nat.le_of_ble_eq_true rfl) dX10_gain_51 ⟨Nat.le_of_ble_eq_true rfl, Nat.le_of_ble_eq_true rfl⟩) ?_
    refine j_topi (z := nI (wsm (nuT nu j) (2 ^ m - 1) m - wsm (nuT nu j) t m)) (by rw [(wsm_full (nuT nu j) t m m (Nat.le_refl _)).2]) ?_
    refine j_i2l (pc := 54) X (v := lN (wsm (nuT nu j) (2 ^ m - 1) m - wsm (nuT nu j) t m)) dX10_gain_54 (nI_l (by have h9 := wsm_le (nuT nu j) (2 ^ m - 1) m (fun i hi => (outc_at hou i hi).2); omega)) ?_
    refine j_lstore (pc := 55) X (lv' := [(7, .long (lN (wsm (nuT nu j) (2 ^ m - 1) m - wsm (nuT nu j) t m))), (5, .long (lN (wsm (nuT nu j) t m))), (4, .int (nI (pcn t 16))), (0, .ref z), (1, .int (nI j)), (2, .int (nI m)), (3, .int (nI t))]) dX10_gain_55 (by decide) rfl ?_
    refine j_aload_n (pc := 57) X dX10_gain_57 rfl 3 rfl ?_
    refine j_lload (pc := 58) X dX10_gain_58 1 rfl ?_
    refine j_iload_n (pc := 60) X dX10_gain_60 rfl 5 rfl ?_
    refine j_iload (pc := 61) X dX10_gain_61 2 rfl ?_
    refine j_isub (pc := 63) X dX10_gain_63 ?_
    refine j_topi (z := nI (m - pcn t 16)) (pk_sub (by have h9 := hgn.2.2.1; omega)) ?_
    refine j_i2l (pc := 64) X (v := lN (m - pcn t 16)) dX10_gain_64 (nI_l (by omega)) ?_
    refine j_lmul (pc := 65) X dX10_gain_65 ?_
    refine j_lload (pc := 66) X dX10_gain_66 0 rfl ?_
    refine j_iload (pc := 68) X dX10_gain_68 2 rfl ?_
    refine j_i2l (pc := 70) X (v := lN (pcn t 16)) dX10_gain_70 (nI_l (by have h9 := hgn.2.2.1; omega)) ?_
    refine j_lmul (pc := 71) X dX10_gain_71 ?_
    refine j_lsub (pc := 72) X dX10_gain_72 ?_
    refine j_topl (z := gnX (nuT nu j) m t) (rfl) ?_
    refine j_iload (pc := 73) X dX10_gain_73 2 rfl ?_
    refine j_i2l (pc := 75) X (v := lN (pcn t 16)) dX10_gain_75 (nI_l (by have h9 := hgn.2.2.1; omega)) ?_
    refine j_iload_n (pc := 76) X dX10_gain_76 rfl 5 rfl ?_
    refine j_iload (pc := 77) X dX10_gain_77 2 rfl ?_
    refine j_isub (pc := 79) X dX10_gain_79 ?_
    refine j_topi (z := nI (m - pcn t 16)) (pk_sub (by have h9 := hgn.2.2.1; omega)) ?_
    refine j_i2l (pc := 80) X (v := lN (m - pcn t 16)) dX10_gain_80 (nI_l (by omega)) ?_
    refine j_lmul (pc := 81) X dX10_gain_81 ?_
    refine j_topl (z := lN (gnK m t)) (lN_mul _ _) ?_
    refine j_ci (pc := 82) X (ws' := [(z, .inr (10, [.int (nI (trF (msO ym) (lnO ym) (nuT nu) (nI j) (nI m) (nI t))), .int (nI 0), .long ((gnX (nuT nu j) m t) / lN (gdl (gnX (nuT nu j) m t) (gnK m t))), .long (lN (gnK m t) / lN (gdl (gnX (nuT nu j) m t) (gnK m t))), .ref z4, .ref z5, .ref z6, .int (nI el), .int (nI be), .ref z9, .ref z10, .ref z11, .ref z12, .int (b2i gz), .ref z14, .ref z15, .ref z16, .int (nI mm), .int (nI tt), .ref z19, .ref z20, .ref z21, .ref z22, .ref z23, .int (nI gm), .ref z25, .ref z26, .ref z27, .ref z28, .int (nI rn), .ref z30, .ref z31, .ref z32])), kI G z5 4 (oF ym), kJ G z6 160 nu]) [0] rfl (j_rV X (b := z) (As := [.long (gnX (nuT nu j) m t), .long (lN (gnK m t))]) (ci := 10) (rest := []) 2 (mX10_tells l G z z4 z5 z6 z9 z10 z11 z12 z14 z15 z16 z19 z20 z21 z22 z23 z25 z26 z27 z28 z30 z31 z32 (trF (msO ym) (lnO ym) (nuT nu) (nI j) (nI m) (nI t)) 0 za zb el be gz mm tt gm rn (gnX (nuT nu j) m t) (gnK m t) (by exact hgn.2.2.2.2) (by exact Nat.mul_pos hgn.2.1 (by have h9 := hgn.2.2.1; omega)) (by have h9 := hgn.2.2.1; have h8 : gnK m t ≤ 16 * 16 := Nat.mul_le_mul (by omega) (by omega); omega)) gX10_gain_X10_tells rfl rfl rfl (by decide +kernel) ⟨Nat.le_of_ble_eq_true rfl, Nat.le_of_ble_eq_true rfl⟩ rfl rfl 0 rfl [0] rfl rfl rfl (Nat.le_of_ble_eq_true rfl) dX10_gain_82 ⟨Nat.le_of_ble_eq_true rfl, Nat.le_of_ble_eq_true rfl⟩) rfl rfl ?_
    have hs : sGainM ym nu za zb (nI j) (nI m) (nI t) = (true, (trF (msO ym) (lnO ym) (nuT nu) (nI j) (nI m) (nI t)), (gnX (nuT nu j) m t) / lN (gdl (gnX (nuT nu j) m t) (gnK m t)), lN (gnK m t) / lN (gdl (gnX (nuT nu j) m t) (gnK m t))) := by first | (simp [sGainM, tN, hq_j, hq_m, hq_t, hq_z, gnX, gnK]; done) | (have hq_u : ¬ trF (msO ym) (lnO ym) (nuT nu) x n s = 0 := (by omega); simp [sGainM, hq_u]; done)
    refine j_zret (pc := 85) X (b2i_nar _) dX10_gain_85 ?_
    rw [hs]; exact ⟨rfl, rfl⟩
  · skip
    refine j_iconst (pc := 23) X (v := nI 0) dX10_gain_23 (by decide) ?_
    have hs : sGainM ym nu za zb x n s = (false, trF (msO ym) (lnO ym) (nuT nu) x n s, za, zb) := by first | (simp [sGainM, tN, gnX, gnK]; done) | (have hq_u : ¬ trF (msO ym) (lnO ym) (nuT nu) x n s = 0 := (by omega); simp [sGainM, hq_u]; done)
    refine j_zret (pc := 24) X (rfl) dX10_gain_24 ?_
    rw [hs]; exact ⟨rfl, rfl⟩

set_option maxHeartbeats 4000000 in
set_option maxRecDepth 100000 in
theorem mX10_chance_L49 (l : Launch) (G : jG) (z : Nat) (z4 : Nat) (z5 : Nat) (z6 : Nat) (z9 : Nat) (z10 : Nat) (z11 : Nat) (z12 : Nat) (z14 : Nat) (z15 : Nat) (z16 : Nat) (z19 : Nat) (z20 : Nat) (z21 : Nat) (z22 : Nat) (z23 : Nat) (z25 : Nat) (z26 : Nat) (z27 : Nat) (z28 : Nat) (z30 : Nat) (z31 : Nat) (z32 : Nat) (st : Nat) (th : Nat) (za : Int64) (zb : Int64) (el : Nat) (be : Nat) (gz : Bool) (mm : Nat) (tt : Nat) (gm : Nat) (rn : Nat) (ym : Nat → Option Nat) (nu : Nat → Int64) (x : Int32) (n : Int32) (s : Int32) (hym : ∀ k, ob 41 (ym k)) (κ : jK) (X : CX κ l yX10_chance cX10_chance 9 RX10 wsX10_chance (some .boolean) ({ frames := 3, cells := 0, slots := 0, locals := 76 }) G (va_A [(z, .inr (10, [.int (nI st), .int (nI th), .long za, .long zb, .ref z4, .ref z5, .ref z6, .int (nI el), .int (nI be), .ref z9, .ref z10, .ref z11, .ref z12, .int (b2i gz), .ref z14, .ref z15, .ref z16, .int (nI mm), .int (nI tt), .ref z19, .ref z20, .ref z21, .ref z22, .ref z23, .int (nI gm), .ref z25, .ref z26, .ref z27, .ref z28, .int (nI rn), .ref z30, .ref z31, .ref z32])), kI G z5 4 (oF ym), kJ G z6 160 nu] (js κ).heap.size))    : ∀ (fu : Nat) (j : Nat) (m : Nat) (t : Nat) (se : Nat) (hxj : x = nI j) (hnm : n = nI m) (hst : s = nI t) (hj : j < 4) (hm2 : 2 ≤ m) (hm16 : m ≤ 16) (ht0 : 0 < t) (ht : t < 2 ^ m - 1) (hou : outc (nuT nu j) m = true) (hz : trF (msO ym) (lnO ym) (nuT nu) (nI j) (nI m) (nI t) = 0) (hse1 : 1 ≤ se) (hse : se ≤ 2 ^ m) (_ : 2 ^ m - se < fu), JJ κ 9 G (va_A [(z, .inr (10, [.int (nI st), .int (nI th), .long za, .long zb, .ref z4, .ref z5, .ref z6, .int (nI el), .int (nI be), .ref z9, .ref z10, .ref z11, .ref z12, .int (b2i gz), .ref z14, .ref z15, .ref z16, .int (nI mm), .int (nI tt), .ref z19, .ref z20, .ref z21, .ref z22, .ref z23, .int (nI gm), .ref z25, .ref z26, .ref z27, .ref z28, .int (nI rn), .ref z30, .ref z31, .ref z32])), kI G z5 4 (oF ym), kJ G z6 160 nu] (js κ).heap.size) 0 0 (jQ κ G [(z, .inr (10, [.int (nI st), .int (nI th), .long za, .long zb, .ref z4, .ref z5, .ref z6, .int (nI el), .int (nI be), .ref z9, .ref z10, .ref z11, .ref z12, .int (b2i gz), .ref z14, .ref z15, .ref z16, .int (nI mm), .int (nI tt), .ref z19, .ref z20, .ref z21, .ref z22, .ref z23, .int (nI gm), .ref z25, .ref z26, .ref z27, .ref z28, .int (nI rn), .ref z30, .ref z31, .ref z32])), kI G z5 4 (oF ym), kJ G z6 160 nu] (fun r w' => r = some (.int (b2i ((sChanceM ym nu za zb x n s).1))) ∧ w' = [(z, .inr (10, [.int (nI ((sChanceM ym nu za zb x n s).2.1)), .int (nI 0), .long ((sChanceM ym nu za zb x n s).2.2.1), .long ((sChanceM ym nu za zb x n s).2.2.2), .ref z4, .ref z5, .ref z6, .int (nI el), .int (nI be), .ref z9, .ref z10, .ref z11, .ref z12, .int (b2i gz), .ref z14, .ref z15, .ref z16, .int (nI mm), .int (nI tt), .ref z19, .ref z20, .ref z21, .ref z22, .ref z23, .int (nI gm), .ref z25, .ref z26, .ref z27, .ref z28, .int (nI rn), .ref z30, .ref z31, .ref z32])), kI G z5 4 (oF ym), kJ G z6 160 nu]) 0 0) 49 [(0, .ref z), (1, .int (nI j)), (2, .int (nI m)), (4, .int (nI (pcn t 16))), (5, .int (nI (wsm (nuT nu j) t m))), (6, .int (nI (ctp (fun s => decide (pcn s 16 = pcn t 16)) se))), (7, .int (nI (ctp (chP (nuT nu j) m t) se))), (8, .int (nI se))] [] [(z, .inr (10, [.int (nI (trF (msO ym) (lnO ym) (nuT nu) (nI j) (nI m) (nI t))), .int (nI 0), .long za, .long zb, .ref z4, .ref z5, .ref z6, .int (nI el), .int (nI be), .ref z9, .ref z10, .ref z11, .ref z12, .int (b2i gz), .ref z14, .ref z15, .ref z16, .int (nI mm), .int (nI tt), .ref z19, .ref z20, .ref z21, .ref z22, .ref z23, .int (nI gm), .ref z25, .ref z26, .ref z27, .ref z28, .int (nI rn), .ref z30, .ref z31, .ref z32])), kI G z5 4 (oF ym), kJ G z6 160 nu] := by
  have i_X10 : ∀ w ∈ wsX100, w ∈ wsX10_chance := by decide +kernel
  intro fu
  induction fu with
  | zero => intro j m t se hxj hnm hst hj hm2 hm16 ht0 ht hou hz hse1 hse hms; exact absurd hms (Nat.not_lt_zero _)
  | succ fu ih =>
    intro j m t se hxj hnm hst hj hm2 hm16 ht0 ht hou hz hse1 hse hms
    subst hxj
    subst hnm
    subst hst
    have hp16 := two_pow_le hm16; have hgn := gn_ok hm16 hou ht0 ht; have hq_j := nI_clamp (n := j) (by omega); have hq_m := nI_clamp (n := m) (by omega); have hq_t := nI_clamp (n := t) (by omega); have hwt := wsm_le (nuT nu j) t m (fun i hi => (outc_at hou i hi).2)
    refine j_iload (pc := 49) X dX10_chance_49 7 rfl ?_
    refine j_iconst (pc := 51) X (v := nI 1) dX10_chance_51 (by decide) ?_
    refine j_iload_n (pc := 52) X dX10_chance_52 rfl 2 rfl ?_
    refine j_ishl (pc := 53) X dX10_chance_53 ?_
    refine j_topi (z := nI (2 ^ m)) (shl1 (by omega)) ?_
    refine j_icmpN_ge (pc := 54) X (a := se) (b := (2 ^ m)) (by first | omega | (have h9 := pcn_le se 16; omega) | (have h9 := pcn_le t 16; omega) | (have h9 := wsm_le (nuT nu j) se m (fun i hi => (outc_at hou i hi).2); omega)) (by first | omega | (have h9 := pcn_le se 16; omega) | (have h9 := pcn_le t 16; omega) | (have h9 := wsm_le (nuT nu j) se m (fun i hi => (outc_at hou i hi).2); omega)) (tgt := 102) dX10_chance_54 (by decide) (fun c_54 => ?_) (fun c_54 => ?_)
    · skip
      have hse2 : se = 2 ^ m := by omega
      refine j_aload_n (pc := 102) X dX10_chance_102 rfl 0 rfl ?_
      refine j_iload (pc := 103) X dX10_chance_103 6 rfl ?_
      refine j_i2l (pc := 105) X (v := lN (chN (nuT nu j) m t)) dX10_chance_105 ((nI_l (by (have h9 := ctp_le (fun s => decide (pcn s 16 = pcn t 16)) se; have h8 := ctp_le (chP (nuT nu j) m t) se; omega))).trans (by rw [hse2, chP_ct hm16 hou])) ?_
      refine j_iload (pc := 106) X dX10_chance_106 5 rfl ?_
      refine j_i2l (pc := 108) X (v := lN (chA m t)) dX10_chance_108 ((nI_l (by (have h9 := ctp_le (fun s => decide (pcn s 16 = pcn t 16)) se; have h8 := ctp_le (chP (nuT nu j) m t) se; omega))).trans (by rw [hse2, chA, cs_ct hm16 (by have h9 := hgn.2.2.1; omega)])) ?_
      refine j_ci (pc := 109) X (ws' := [(z, .inr (10, [.int (nI (trF (msO ym) (lnO ym) (nuT nu) (nI j) (nI m) (nI t))), .int (nI 0), .long ((lN (chN (nuT nu j) m t)) / lN (gdl (lN (chN (nuT nu j) m t)) (chA m t))), .long (lN (chA m t) / lN (gdl (lN (chN (nuT nu j) m t)) (chA m t))), .ref z4, .ref z5, .ref z6, .int (nI el), .int (nI be), .ref z9, .ref z10, .ref z11, .ref z12, .int (b2i gz), .ref z14, .ref z15, .ref z16, .int (nI mm), .int (nI tt), .ref z19, .ref z20, .ref z21, .ref z22, .ref z23, .int (nI gm), .ref z25, .ref z26, .ref z27, .ref z28, .int (nI rn), .ref z30, .ref z31, .ref z32])), kI G z5 4 (oF ym), kJ G z6 160 nu]) [0] rfl (j_rV X (b := z) (As := [.long (lN (chN (nuT nu j) m t)), .long (lN (chA m t))]) (ci := 10) (rest := []) 2 (mX10_tells l G z z4 z5 z6 z9 z10 z11 z12 z14 z15 z16 z19 z20 z21 z22 z23 z25 z26 z27 z28 z30 z31 z32 (trF (msO ym) (lnO ym) (nuT nu) (nI j) (nI m) (nI t)) 0 za zb el be gz mm tt gm rn (lN (chN (nuT nu j) m t)) (chA m t) (by rw [← chP_ct hm16 hou, pk_lT (by have h9 := ctp_le (fun s => decide (pcn s 16 = pcn t 16)) (2 ^ m); have h8 := ctp_le (chP (nuT nu j) m t) (2 ^ m); omega)]; have h9 := ctp_le (fun s => decide (pcn s 16 = pcn t 16)) (2 ^ m); have h8 := ctp_le (chP (nuT nu j) m t) (2 ^ m); omega) (by exact (cs_LL hm16 (by have h9 := hgn.2.2.1; omega)).2) (by have h7 := csF_le (i := pcn t 16) hm16 (show pcn t 16 ≤ m by have h9 := hgn.2.2.1; omega) (Nat.le_refl _); show csF m (pcn t 16) (pcn t 16) < _; omega)) gX10_chance_X10_tells rfl rfl rfl (by decide +kernel) ⟨Nat.le_of_ble_eq_true rfl, Nat.le_of_ble_eq_true rfl⟩ rfl rfl 0 rfl [0] rfl rfl rfl (Nat.le_of_ble_eq_true rfl) dX10_chance_109 ⟨Nat.le_of_ble_eq_true rfl, Nat.le_of_ble_eq_true rfl⟩) rfl rfl ?_
      have hs : sChanceM ym nu za zb (nI j) (nI m) (nI t) = (true, (trF (msO ym) (lnO ym) (nuT nu) (nI j) (nI m) (nI t)), (lN (chN (nuT nu j) m t)) / lN (gdl (lN (chN (nuT nu j) m t)) (chA m t)), lN (chA m t) / lN (gdl (lN (chN (nuT nu j) m t)) (chA m t))) := by simp [sChanceM, tN, hq_j, hq_m, hq_t, hz]
      refine j_zret (pc := 112) X (b2i_nar _) dX10_chance_112 ?_
      rw [hs]; exact ⟨rfl, rfl⟩
    · skip
      refine j_iload (pc := 57) X dX10_chance_57 7 rfl ?_
      refine j_ciP (pc := 59) X [] rfl (j_rS X (As := [.int (nI se)]) (rest := []) 1 (mJ6_bitCount_0f7a4 l G (nI se) ) gX10_chance_J6_bitCount_0f7a4 rfl rfl rfl (by decide +kernel) ⟨Nat.le_of_ble_eq_true rfl, Nat.le_of_ble_eq_true rfl⟩ rfl [] rfl rfl rfl (Nat.le_of_ble_eq_true rfl) dX10_chance_59 ⟨Nat.le_of_ble_eq_true rfl, Nat.le_of_ble_eq_true rfl⟩) ?_
      refine j_topi (z := nI (pcn se 16)) (bcF_nI (by omega)) ?_
      refine j_iload (pc := 62) X dX10_chance_62 3 rfl ?_
      refine j_icmpN_eq (pc := 64) X (a := (pcn se 16)) (b := (pcn t 16)) (by first | omega | (have h9 := pcn_le se 16; omega) | (have h9 := pcn_le t 16; omega) | (have h9 := wsm_le (nuT nu j) se m (fun i hi => (outc_at hou i hi).2); omega)) (by first | omega | (have h9 := pcn_le se 16; omega) | (have h9 := pcn_le t 16; omega) | (have h9 := wsm_le (nuT nu j) se m (fun i hi => (outc_at hou i hi).2); omega)) (tgt := 70) dX10_chance_64 (by decide) (fun c_64 => ?_) (fun c_64 => ?_)
      · skip
        refine j_iinc (pc := 70) X (v := nI (ctp (fun s => decide (pcn s 16 = pcn t 16)) se + 1)) (lv' := [(6, .int (nI (ctp (fun s => decide (pcn s 16 = pcn t 16)) se + 1))), (0, .ref z), (1, .int (nI j)), (2, .int (nI m)), (4, .int (nI (pcn t 16))), (5, .int (nI (wsm (nuT nu j) t m))), (7, .int (nI (ctp (chP (nuT nu j) m t) se))), (8, .int (nI se))]) dX10_chance_70 5 rfl (nI_1 _) (by decide) rfl ?_
        refine j_iload (pc := 73) X dX10_chance_73 6 rfl ?_
        refine j_aload_n (pc := 75) X dX10_chance_75 rfl 1 rfl ?_
        refine j_iload_n (pc := 76) X dX10_chance_76 rfl 2 rfl ?_
        refine j_iload_n (pc := 77) X dX10_chance_77 rfl 3 rfl ?_
        refine j_iload (pc := 78) X dX10_chance_78 7 rfl ?_
        refine j_ciP (pc := 80) X [0, 2] rfl (j_rV X (b := z) (As := [.int (nI j), .int (nI m), .int (nI se)]) (ci := 10) (rest := [.int (nI (ctp (chP (nuT nu j) m t) se))]) 3 (mX10_sumOf l G z z4 z5 z6 z9 z10 z11 z12 z14 z15 z16 z19 z20 z21 z22 z23 z25 z26 z27 z28 z30 z31 z32 (trF (msO ym) (lnO ym) (nuT nu) (nI j) (nI m) (nI t)) 0 za zb el be gz mm tt gm rn nu j m se (by first | assumption | omega | exact ob_s (by omega) | exact ob_n) (by first | assumption | omega | exact ob_s (by omega) | exact ob_n) (by first | assumption | omega | exact ob_s (by omega) | exact ob_n) (by exact hou)) gX10_chance_X10_sumOf rfl rfl rfl (by decide +kernel) ⟨Nat.le_of_ble_eq_true rfl, Nat.le_of_ble_eq_true rfl⟩ rfl rfl 0 rfl [0, 2] rfl rfl rfl (Nat.le_of_ble_eq_true rfl) dX10_chance_80 ⟨Nat.le_of_ble_eq_true rfl, Nat.le_of_ble_eq_true rfl⟩) ?_
        refine j_iload (pc := 83) X dX10_chance_83 5 rfl ?_
        refine j_icmpN_lt (pc := 85) X (a := (wsm (nuT nu j) se m)) (b := (wsm (nuT nu j) t m)) (by first | omega | (have h9 := pcn_le se 16; omega) | (have h9 := pcn_le t 16; omega) | (have h9 := wsm_le (nuT nu j) se m (fun i hi => (outc_at hou i hi).2); omega)) (by first | omega | (have h9 := pcn_le se 16; omega) | (have h9 := pcn_le t 16; omega) | (have h9 := wsm_le (nuT nu j) se m (fun i hi => (outc_at hou i hi).2); omega)) (tgt := 92) dX10_chance_85 (by decide) (fun c_85 => ?_) (fun c_85 => ?_)
        · skip
          refine j_iconst (pc := 92) X (v := nI 0) dX10_chance_92 (by decide) ?_
          refine j_iadd (pc := 93) X dX10_chance_93 ?_
          refine j_topi (z := nI (ctp (chP (nuT nu j) m t) se + 0)) (nI_add _ _) ?_
          refine j_istore (pc := 94) X (lv' := [(7, .int (nI (ctp (chP (nuT nu j) m t) se + 0))), (6, .int (nI (ctp (fun s => decide (pcn s 16 = pcn t 16)) se + 1))), (0, .ref z), (1, .int (nI j)), (2, .int (nI m)), (4, .int (nI (pcn t 16))), (5, .int (nI (wsm (nuT nu j) t m))), (8, .int (nI se))]) dX10_chance_94 (by decide) rfl ?_
          refine j_iinc (pc := 96) X (v := nI (se + 1)) (lv' := [(8, .int (nI (se + 1))), (7, .int (nI (ctp (chP (nuT nu j) m t) se + 0))), (6, .int (nI (ctp (fun s => decide (pcn s 16 = pcn t 16)) se + 1))), (0, .ref z), (1, .int (nI j)), (2, .int (nI m)), (4, .int (nI (pcn t 16))), (5, .int (nI (wsm (nuT nu j) t m)))]) dX10_chance_96 7 rfl (nI_1 _) (by decide) rfl ?_
          refine j_goto (pc := 99) X (tgt := 49) dX10_chance_99 (by decide) ?_
          refine j_lv [3, 4, 5, 6, 7, 2, 1, 0] (lv' := [(0, .ref z), (1, .int (nI j)), (2, .int (nI m)), (4, .int (nI (pcn t 16))), (5, .int (nI (wsm (nuT nu j) t m))), (6, .int (nI (ctp (fun s => decide (pcn s 16 = pcn t 16)) se + 1))), (7, .int (nI (ctp (chP (nuT nu j) m t) se + 0))), (8, .int (nI (se + 1)))]) rfl ?_
          refine j_lvq (lv' := [(0, .ref z), (1, .int (nI j)), (2, .int (nI m)), (4, .int (nI (pcn t 16))), (5, .int (nI (wsm (nuT nu j) t m))), (6, .int (nI (ctp (fun s => decide (pcn s 16 = pcn t 16)) (se + 1)))), (7, .int (nI (ctp (chP (nuT nu j) m t) (se + 1)))), (8, .int (nI (se + 1)))]) ?_ ?_
          · rw [show (ctp (fun s => decide (pcn s 16 = pcn t 16)) se + 1) = ctp (fun s => decide (pcn s 16 = pcn t 16)) (se + 1) from by (simp only [ctp, chP]; simp [c_54, c_64, c_85]; try omega), show (ctp (chP (nuT nu j) m t) se + 0) = ctp (chP (nuT nu j) m t) (se + 1) from by (simp only [ctp, chP]; simp [c_54, c_64, c_85]; try omega)]
          exact ih j m t (se + 1) (rfl) (rfl) (rfl) (by omega) (by omega) (by omega) (ht0) (ht) (hou) (hz) (by omega) (by have h9 := two_pow_le (n := 1) (m := m) (by omega); omega) (by omega)
        · skip
          refine j_iconst (pc := 88) X (v := nI 1) dX10_chance_88 (by decide) ?_
          refine j_goto (pc := 89) X (tgt := 93) dX10_chance_89 (by decide) ?_
          refine j_iadd (pc := 93) X dX10_chance_93 ?_
          refine j_topi (z := nI (ctp (chP (nuT nu j) m t) se + 1)) (nI_add _ _) ?_
          refine j_istore (pc := 94) X (lv' := [(7, .int (nI (ctp (chP (nuT nu j) m t) se + 1))), (6, .int (nI (ctp (fun s => decide (pcn s 16 = pcn t 16)) se + 1))), (0, .ref z), (1, .int (nI j)), (2, .int (nI m)), (4, .int (nI (pcn t 16))), (5, .int (nI (wsm (nuT nu j) t m))), (8, .int (nI se))]) dX10_chance_94 (by decide) rfl ?_
          refine j_iinc (pc := 96) X (v := nI (se + 1)) (lv' := [(8, .int (nI (se + 1))), (7, .int (nI (ctp (chP (nuT nu j) m t) se + 1))), (6, .int (nI (ctp (fun s => decide (pcn s 16 = pcn t 16)) se + 1))), (0, .ref z), (1, .int (nI j)), (2, .int (nI m)), (4, .int (nI (pcn t 16))), (5, .int (nI (wsm (nuT nu j) t m)))]) dX10_chance_96 7 rfl (nI_1 _) (by decide) rfl ?_
          refine j_goto (pc := 99) X (tgt := 49) dX10_chance_99 (by decide) ?_
          refine j_lv [3, 4, 5, 6, 7, 2, 1, 0] (lv' := [(0, .ref z), (1, .int (nI j)), (2, .int (nI m)), (4, .int (nI (pcn t 16))), (5, .int (nI (wsm (nuT nu j) t m))), (6, .int (nI (ctp (fun s => decide (pcn s 16 = pcn t 16)) se + 1))), (7, .int (nI (ctp (chP (nuT nu j) m t) se + 1))), (8, .int (nI (se + 1)))]) rfl ?_
          refine j_lvq (lv' := [(0, .ref z), (1, .int (nI j)), (2, .int (nI m)), (4, .int (nI (pcn t 16))), (5, .int (nI (wsm (nuT nu j) t m))), (6, .int (nI (ctp (fun s => decide (pcn s 16 = pcn t 16)) (se + 1)))), (7, .int (nI (ctp (chP (nuT nu j) m t) (se + 1)))), (8, .int (nI (se + 1)))]) ?_ ?_
          · rw [show (ctp (fun s => decide (pcn s 16 = pcn t 16)) se + 1) = ctp (fun s => decide (pcn s 16 = pcn t 16)) (se + 1) from by (simp only [ctp, chP]; simp [c_54, c_64, c_85]; try omega), show (ctp (chP (nuT nu j) m t) se + 1) = ctp (chP (nuT nu j) m t) (se + 1) from by (simp only [ctp, chP]; simp [c_54, c_64, c_85]; try omega)]
          exact ih j m t (se + 1) (rfl) (rfl) (rfl) (by omega) (by omega) (by omega) (ht0) (ht) (hou) (hz) (by omega) (by have h9 := two_pow_le (n := 1) (m := m) (by omega); omega) (by omega)
      · skip
        refine j_goto (pc := 67) X (tgt := 96) dX10_chance_67 (by decide) ?_
        refine j_iinc (pc := 96) X (v := nI (se + 1)) (lv' := [(8, .int (nI (se + 1))), (0, .ref z), (1, .int (nI j)), (2, .int (nI m)), (4, .int (nI (pcn t 16))), (5, .int (nI (wsm (nuT nu j) t m))), (6, .int (nI (ctp (fun s => decide (pcn s 16 = pcn t 16)) se))), (7, .int (nI (ctp (chP (nuT nu j) m t) se)))]) dX10_chance_96 7 rfl (nI_1 _) (by decide) rfl ?_
        refine j_goto (pc := 99) X (tgt := 49) dX10_chance_99 (by decide) ?_
        refine j_lv [1, 2, 3, 4, 5, 6, 7, 0] (lv' := [(0, .ref z), (1, .int (nI j)), (2, .int (nI m)), (4, .int (nI (pcn t 16))), (5, .int (nI (wsm (nuT nu j) t m))), (6, .int (nI (ctp (fun s => decide (pcn s 16 = pcn t 16)) se))), (7, .int (nI (ctp (chP (nuT nu j) m t) se))), (8, .int (nI (se + 1)))]) rfl ?_
        refine j_lvq (lv' := [(0, .ref z), (1, .int (nI j)), (2, .int (nI m)), (4, .int (nI (pcn t 16))), (5, .int (nI (wsm (nuT nu j) t m))), (6, .int (nI (ctp (fun s => decide (pcn s 16 = pcn t 16)) (se + 1)))), (7, .int (nI (ctp (chP (nuT nu j) m t) (se + 1)))), (8, .int (nI (se + 1)))]) ?_ ?_
        · rw [show (ctp (fun s => decide (pcn s 16 = pcn t 16)) se) = ctp (fun s => decide (pcn s 16 = pcn t 16)) (se + 1) from by (simp only [ctp, chP]; simp [c_54, c_64]; try omega), show (ctp (chP (nuT nu j) m t) se) = ctp (chP (nuT nu j) m t) (se + 1) from by (simp only [ctp, chP]; simp [c_54, c_64]; try omega)]
        exact ih j m t (se + 1) (rfl) (rfl) (rfl) (by omega) (by omega) (by omega) (ht0) (ht) (hou) (hz) (by omega) (by have h9 := two_pow_le (n := 1) (m := m) (by omega); omega) (by omega)
set_option maxHeartbeats 4000000 in
set_option maxRecDepth 100000 in
theorem mX10_chance (l : Launch) (G : jG) (z : Nat) (z4 : Nat) (z5 : Nat) (z6 : Nat) (z9 : Nat) (z10 : Nat) (z11 : Nat) (z12 : Nat) (z14 : Nat) (z15 : Nat) (z16 : Nat) (z19 : Nat) (z20 : Nat) (z21 : Nat) (z22 : Nat) (z23 : Nat) (z25 : Nat) (z26 : Nat) (z27 : Nat) (z28 : Nat) (z30 : Nat) (z31 : Nat) (z32 : Nat) (st : Nat) (th : Nat) (za : Int64) (zb : Int64) (el : Nat) (be : Nat) (gz : Bool) (mm : Nat) (tt : Nat) (gm : Nat) (rn : Nat) (ym : Nat → Option Nat) (nu : Nat → Int64) (x : Int32) (n : Int32) (s : Int32) (hym : ∀ k, ob 41 (ym k)) : MV l yX10_chance wsX10_chance ({ frames := 3, cells := 0, slots := 0, locals := 76 }) G [.ref z, .int x, .int n, .int s] [(z, .inr (10, [.int (nI st), .int (nI th), .long za, .long zb, .ref z4, .ref z5, .ref z6, .int (nI el), .int (nI be), .ref z9, .ref z10, .ref z11, .ref z12, .int (b2i gz), .ref z14, .ref z15, .ref z16, .int (nI mm), .int (nI tt), .ref z19, .ref z20, .ref z21, .ref z22, .ref z23, .int (nI gm), .ref z25, .ref z26, .ref z27, .ref z28, .int (nI rn), .ref z30, .ref z31, .ref z32])), kI G z5 4 (oF ym), kJ G z6 160 nu] (some (.int (b2i ((sChanceM ym nu za zb x n s).1)))) [(z, .inr (10, [.int (nI ((sChanceM ym nu za zb x n s).2.1)), .int (nI 0), .long ((sChanceM ym nu za zb x n s).2.2.1), .long ((sChanceM ym nu za zb x n s).2.2.2), .ref z4, .ref z5, .ref z6, .int (nI el), .int (nI be), .ref z9, .ref z10, .ref z11, .ref z12, .int (b2i gz), .ref z14, .ref z15, .ref z16, .int (nI mm), .int (nI tt), .ref z19, .ref z20, .ref z21, .ref z22, .ref z23, .int (nI gm), .ref z25, .ref z26, .ref z27, .ref z28, .int (nI rn), .ref z30, .ref z31, .ref z32])), kI G z5 4 (oF ym), kJ G z6 160 nu] := by
  refine MF.ofJ (cc := cX10_chance) (maxL := 9) (ret := (some .boolean)) (own := RX10) (lv := [(0, .ref z), (1, .int x), (2, .int n), (3, .int s)]) (by decide) rfl rfl (Nat.le_of_ble_eq_true rfl) rfl ?_
  intro κ X
  have i_X10 : ∀ w ∈ wsX100, w ∈ wsX10_chance := by decide +kernel
  refine j_aload_n (pc := 0) X dX10_chance_0 rfl 0 rfl ?_
  refine j_iconst (pc := 1) X (v := nI 0) dX10_chance_1 (by decide) ?_
  refine j_put (pc := 2) X (v := .int (nI 0)) (ws' := [(z, .inr (10, [.int (nI st), .int (nI 0), .long za, .long zb, .ref z4, .ref z5, .ref z6, .int (nI el), .int (nI be), .ref z9, .ref z10, .ref z11, .ref z12, .int (b2i gz), .ref z14, .ref z15, .ref z16, .int (nI mm), .int (nI tt), .ref z19, .ref z20, .ref z21, .ref z22, .ref z23, .int (nI gm), .ref z25, .ref z26, .ref z27, .ref z28, .int (nI rn), .ref z30, .ref z31, .ref z32])), kI G z5 4 (oF ym), kJ G z6 160 nu]) 10 i_X10 tyX10 tyX10_ok nmX10 0 rfl rfl 1 (by decide) (by decide +kernel) (by decide) (rfl) (rfl) (Nat.le_of_ble_eq_true rfl) dX10_chance_2 rfl ?_
  refine j_aload_n (pc := 5) X dX10_chance_5 rfl 0 rfl ?_
  refine j_aload_n (pc := 6) X dX10_chance_6 rfl 0 rfl ?_
  refine j_iload_n (pc := 7) X dX10_chance_7 rfl 1 rfl ?_
  refine j_iload_n (pc := 8) X dX10_chance_8 rfl 2 rfl ?_
  refine j_iload_n (pc := 9) X dX10_chance_9 rfl 3 rfl ?_
  refine j_ciP (pc := 10) X [0, 1, 2] rfl (j_rV X (b := z) (As := [.int x, .int n, .int s]) (ci := 10) (rest := [.ref z]) 3 (mX10_trial l G z z4 z5 z6 z9 z10 z11 z12 z14 z15 z16 z19 z20 z21 z22 z23 z25 z26 z27 z28 z30 z31 z32 st 0 za zb el be gz mm tt gm rn ym nu x n s (by first | assumption | omega | exact ob_s (by omega) | exact ob_n)) gX10_chance_X10_trial rfl rfl rfl (by decide +kernel) ⟨Nat.le_of_ble_eq_true rfl, Nat.le_of_ble_eq_true rfl⟩ rfl rfl 0 rfl [0, 1, 2] rfl rfl rfl (Nat.le_of_ble_eq_true rfl) dX10_chance_10 ⟨Nat.le_of_ble_eq_true rfl, Nat.le_of_ble_eq_true rfl⟩) ?_
  refine j_put (pc := 13) X (v := .int (nI (trF (msO ym) (lnO ym) (nuT nu) x n s))) (ws' := [(z, .inr (10, [.int (nI (trF (msO ym) (lnO ym) (nuT nu) x n s)), .int (nI 0), .long za, .long zb, .ref z4, .ref z5, .ref z6, .int (nI el), .int (nI be), .ref z9, .ref z10, .ref z11, .ref z12, .int (b2i gz), .ref z14, .ref z15, .ref z16, .int (nI mm), .int (nI tt), .ref z19, .ref z20, .ref z21, .ref z22, .ref z23, .int (nI gm), .ref z25, .ref z26, .ref z27, .ref z28, .int (nI rn), .ref z30, .ref z31, .ref z32])), kI G z5 4 (oF ym), kJ G z6 160 nu]) 10 i_X10 tyX10 tyX10_ok nmX10 0 rfl rfl 0 (by decide) (by decide +kernel) (by decide) (rfl) (rfl) (Nat.le_of_ble_eq_true rfl) dX10_chance_13 rfl ?_
  refine j_aload_n (pc := 16) X dX10_chance_16 rfl 0 rfl ?_
  refine j_get (pc := 17) X 10 i_X10 0 rfl rfl 0 (by decide) (by decide +kernel) rfl dX10_chance_17 ?_
  refine j_ifN_le (pc := 20) X (a := (trF (msO ym) (lnO ym) (nuT nu) x n s)) (by first | omega | (have h9 := trF_le (msO ym) (lnO ym) (nuT nu) x n s; omega)) (tgt := 25) dX10_chance_20 (by decide) (fun c_20 => ?_) (fun c_20 => ?_)
  · skip
    obtain ⟨j, m, t, hj, rfl, hmsj, hm2, hm16, rfl, hmln, ht0, ht, rfl, hou⟩ := trF_0 (lnO_le hym) (Nat.le_zero.mp c_20); have hp16 := two_pow_le hm16; have hq_j := nI_clamp (n := j) (by omega); have hq_m := nI_clamp (n := m) (by omega); have hq_t := nI_clamp (n := t) (by omega); have hq_z : trF (msO ym) (lnO ym) (nuT nu) (nI j) (nI m) (nI t) = 0 := Nat.le_zero.mp c_20; have hgn := gn_ok hm16 hou ht0 ht
    refine j_iload_n (pc := 25) X dX10_chance_25 rfl 3 rfl ?_
    refine j_ciP (pc := 26) X [] rfl (j_rS X (As := [.int (nI t)]) (rest := []) 1 (mJ6_bitCount_0f7a4 l G (nI t) ) gX10_chance_J6_bitCount_0f7a4 rfl rfl rfl (by decide +kernel) ⟨Nat.le_of_ble_eq_true rfl, Nat.le_of_ble_eq_true rfl⟩ rfl [] rfl rfl rfl (Nat.le_of_ble_eq_true rfl) dX10_chance_26 ⟨Nat.le_of_ble_eq_true rfl, Nat.le_of_ble_eq_true rfl⟩) ?_
    refine j_topi (z := nI (pcn t 16)) (hgn.1) ?_
    refine j_istore (pc := 29) X (lv' := [(4, .int (nI (pcn t 16))), (0, .ref z), (1, .int (nI j)), (2, .int (nI m)), (3, .int (nI t))]) dX10_chance_29 (by decide) rfl ?_
    refine j_aload_n (pc := 31) X dX10_chance_31 rfl 1 rfl ?_
    refine j_iload_n (pc := 32) X dX10_chance_32 rfl 2 rfl ?_
    refine j_iload_n (pc := 33) X dX10_chance_33 rfl 3 rfl ?_
    refine j_iload_n (pc := 34) X dX10_chance_34 rfl 4 rfl ?_
    refine j_ciP (pc := 35) X [0, 2] rfl (j_rV X (b := z) (As := [.int (nI j), .int (nI m), .int (nI t)]) (ci := 10) (rest := []) 3 (mX10_sumOf l G z z4 z5 z6 z9 z10 z11 z12 z14 z15 z16 z19 z20 z21 z22 z23 z25 z26 z27 z28 z30 z31 z32 (trF (msO ym) (lnO ym) (nuT nu) (nI j) (nI m) (nI t)) 0 za zb el be gz mm tt gm rn nu j m t (by first | assumption | omega | exact ob_s (by omega) | exact ob_n) (by first | assumption | omega | exact ob_s (by omega) | exact ob_n) (by first | assumption | omega | exact ob_s (by omega) | exact ob_n) (by exact hou)) gX10_chance_X10_sumOf rfl rfl rfl (by decide +kernel) ⟨Nat.le_of_ble_eq_true rfl, Nat.le_of_ble_eq_true rfl⟩ rfl rfl 0 rfl [0, 2] rfl rfl rfl (Nat.le_of_ble_eq_true rfl) dX10_chance_35 ⟨Nat.le_of_ble_eq_true rfl, Nat.le_of_ble_eq_true rfl⟩) ?_
    refine j_istore (pc := 38) X (lv' := [(5, .int (nI (wsm (nuT nu j) t m))), (4, .int (nI (pcn t 16))), (0, .ref z), (1, .int (nI j)), (2, .int (nI m)), (3, .int (nI t))]) dX10_chance_38 (by decide) rfl ?_
    refine j_iconst (pc := 40) X (v := nI 0) dX10_chance_40 (by decide) ?_
    refine j_istore (pc := 41) X (lv' := [(6, .int (nI 0)), (5, .int (nI (wsm (nuT nu j) t m))), (4, .int (nI (pcn t 16))), (0, .ref z), (1, .int (nI j)), (2, .int (nI m)), (3, .int (nI t))]) dX10_chance_41 (by decide) rfl ?_
    refine j_iconst (pc := 43) X (v := nI 0) dX10_chance_43 (by decide) ?_
    refine j_istore (pc := 44) X (lv' := [(7, .int (nI 0)), (6, .int (nI 0)), (5, .int (nI (wsm (nuT nu j) t m))), (4, .int (nI (pcn t 16))), (0, .ref z), (1, .int (nI j)), (2, .int (nI m)), (3, .int (nI t))]) dX10_chance_44 (by decide) rfl ?_
    refine j_iconst (pc := 46) X (v := nI 1) dX10_chance_46 (by decide) ?_
    refine j_istore (pc := 47) X (lv' := [(8, .int (nI 1)), (7, .int (nI 0)), (6, .int (nI 0)), (5, .int (nI (wsm (nuT nu j) t m))), (4, .int (nI (pcn t 16))), (0, .ref z), (1, .int (nI j)), (2, .int (nI m)), (3, .int (nI t))]) dX10_chance_47 (by decide) rfl ?_
    refine j_lv [5, 6, 7, 4, 3, 2, 1, 0] (lv' := [(0, .ref z), (1, .int (nI j)), (2, .int (nI m)), (4, .int (nI (pcn t 16))), (5, .int (nI (wsm (nuT nu j) t m))), (6, .int (nI 0)), (7, .int (nI 0)), (8, .int (nI 1))]) rfl ?_
    refine j_lvq (lv' := [(0, .ref z), (1, .int (nI j)), (2, .int (nI m)), (4, .int (nI (pcn t 16))), (5, .int (nI (wsm (nuT nu j) t m))), (6, .int (nI (ctp (fun s => decide (pcn s 16 = pcn t 16)) 1))), (7, .int (nI (ctp (chP (nuT nu j) m t) 1))), (8, .int (nI 1))]) ?_ ?_
    · (first | rfl | (rw [ctp_1 (by have h9 := pcn_0 16; have h8 := hgn.2.1; simp [h9]; omega), ctp_1 (by have h9 := pcn_0 16; have h8 := hgn.2.1; simp [chP, h9]; omega)]))
    exact mX10_chance_L49 l G z z4 z5 z6 z9 z10 z11 z12 z14 z15 z16 z19 z20 z21 z22 z23 z25 z26 z27 z28 z30 z31 z32 st th za zb el be gz mm tt gm rn ym nu (nI j) (nI m) (nI t) hym κ X    (2 ^ m - 1 + 1) j m t 1 (rfl) (rfl) (rfl) (by omega) (by omega) (by omega) (ht0) (ht) (hou) (hq_z) (by omega) (by have h9 := two_pow_le (n := 1) (m := m) (by omega); omega) (Nat.lt_succ_self _)
  · skip
    refine j_iconst (pc := 23) X (v := nI 0) dX10_chance_23 (by decide) ?_
    have hs : sChanceM ym nu za zb x n s = (false, trF (msO ym) (lnO ym) (nuT nu) x n s, za, zb) := by first | (simp [sChanceM, tN, ne_eq]; done) | (have hq_u : ¬ trF (msO ym) (lnO ym) (nuT nu) x n s = 0 := (by omega); simp [sChanceM, hq_u]; done)
    refine j_zret (pc := 24) X (rfl) dX10_chance_24 ?_
    rw [hs]; exact ⟨rfl, rfl⟩

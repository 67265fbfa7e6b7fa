set_option maxHeartbeats 4000000 in
set_option maxRecDepth 100000 in
theorem mJ7_fill_53178_L5 (l : Launch) (G : jG) (q : Nat) (n : Nat) (f : Nat → Option Nat) (v : Option Nat) (hn : n < 2147483648) (κ : jK) (X : CX κ l yJ7_fill_53178 cJ7_fill_53178 4 RJ7 wsJ7_fill_53178 none ({ frames := 0, cells := 0, slots := 0, locals := 0 }) G (va_A [kI G q n (oF f)] (js κ).heap.size))    : ∀ (fu : Nat) (i : Nat) (hi : i ≤ n) (_ : n - i < fu), JJ κ 4 G (va_A [kI G q n (oF f)] (js κ).heap.size) 0 0 (jQ κ G [kI G q n (oF f)] (fun r w' => r = none ∧ w' = [kI G q n (oF (fil v f n))]) 0 0) 5 [(0, .ref q), (1, .int (oI v)), (2, .int (nI i)), (3, .int (nI n))] [] [kI G q n (oF (fil v f i))] := by
  intro fu
  induction fu with
  | zero => intro i hi hms; exact absurd hms (Nat.not_lt_zero _)
  | succ fu ih =>
    intro i hi hms
    refine j_iload_n (pc := 5) X dJ7_fill_53178_5 rfl 2 rfl ?_
    refine j_iload_n (pc := 6) X dJ7_fill_53178_6 rfl 3 rfl ?_
    refine j_icmpN_ge (pc := 7) X (a := i) (b := n) (by omega) (by omega) (tgt := 20) dJ7_fill_53178_7 (by decide) (fun c_7 => ?_) (fun c_7 => ?_)
    · skip
      exact j_vret (pc := 20) X dJ7_fill_53178_20 ⟨rfl, by rw [show i = n by omega]⟩
    · skip
      refine j_aload_n (pc := 10) X dJ7_fill_53178_10 rfl 0 rfl ?_
      refine j_iload_n (pc := 11) X dJ7_fill_53178_11 rfl 2 rfl ?_
      refine j_iload_n (pc := 12) X dJ7_fill_53178_12 rfl 1 rfl ?_
      refine j_iast (pc := 13) X (f2 := (oF (va_up (fil v f i) i v))) (ws' := [kI G q n (oF (va_up (fil v f i) i v))]) 0 rfl (vp_in_nI (by omega) (by omega)) dJ7_fill_53178_13 (by rw [nI_clamp (by omega)]; exact oF_up (fil v f i) i v) rfl ?_
      refine j_iinc (pc := 14) X (v := nI (i + 1)) (lv' := [(2, .int (nI (i + 1))), (0, .ref q), (1, .int (oI v)), (3, .int (nI n))]) dJ7_fill_53178_14 2 rfl (nI_1 _) (by decide) rfl ?_
      refine j_goto (pc := 17) X (tgt := 5) dJ7_fill_53178_17 (by decide) ?_
      refine j_lv [1, 2, 0, 3] (lv' := [(0, .ref q), (1, .int (oI v)), (2, .int (nI (i + 1))), (3, .int (nI n))]) rfl ?_
      refine j_ws (ws' := [kI G q n (oF (fil v f (i + 1)))]) ?_ ?_
      · (rw [fil_s])
      exact ih (i + 1) (by omega) (by omega)
set_option maxHeartbeats 4000000 in
set_option maxRecDepth 100000 in
theorem mJ7_fill_53178 (l : Launch) (G : jG) (q : Nat) (n : Nat) (f : Nat → Option Nat) (v : Option Nat) (hn : n < 2147483648) : MV l yJ7_fill_53178 wsJ7_fill_53178 ({ frames := 0, cells := 0, slots := 0, locals := 0 }) G [.ref q, .int (oI v)] [kI G q n (oF f)] (none) [kI G q n (oF (fil v f n))] := by
  refine MF.ofJ (cc := cJ7_fill_53178) (maxL := 4) (ret := none) (own := RJ7) (lv := [(0, .ref q), (1, .int (oI v))]) (by decide) rfl rfl (Nat.le_of_ble_eq_true rfl) rfl ?_
  intro κ X
  refine j_iconst (pc := 0) X (v := nI 0) dJ7_fill_53178_0 (by decide) ?_
  refine j_istore_n (pc := 1) X (lv' := [(2, .int (nI 0)), (0, .ref q), (1, .int (oI v))]) dJ7_fill_53178_1 rfl (by decide) rfl ?_
  refine j_aload_n (pc := 2) X dJ7_fill_53178_2 rfl 1 rfl ?_
  refine j_alenI (pc := 3) X 0 rfl dJ7_fill_53178_3 ?_
  refine j_istore_n (pc := 4) X (lv' := [(3, .int (nI n)), (2, .int (nI 0)), (0, .ref q), (1, .int (oI v))]) dJ7_fill_53178_4 rfl (by decide) rfl ?_
  refine j_lv [2, 3, 1, 0] (lv' := [(0, .ref q), (1, .int (oI v)), (2, .int (nI 0)), (3, .int (nI n))]) rfl ?_
  refine j_ws (ws' := [kI G q n (oF (fil v f 0))]) ?_ ?_
  · (rw [fil_0])
  exact mJ7_fill_53178_L5 l G q n f v hn κ X    (n - 0 + 1) 0 (by omega) (Nat.lt_succ_self _)

set_option maxHeartbeats 4000000 in
set_option maxRecDepth 100000 in
theorem mJ7_fill_d0a16_L6 (l : Launch) (G : jG) (q : Nat) (n : Nat) (f : Nat → Int64) (v : Int64) (hn : n < 2147483648) (κ : jK) (X : CX κ l yJ7_fill_d0a16 cJ7_fill_d0a16 5 RJ7 wsJ7_fill_d0a16 none ({ frames := 0, cells := 0, slots := 0, locals := 0 }) G (va_A [kJ G q n f] (js κ).heap.size))    : ∀ (fu : Nat) (i : Nat) (hi : i ≤ n) (_ : n - i < fu), JJ κ 5 G (va_A [kJ G q n f] (js κ).heap.size) 0 0 (jQ κ G [kJ G q n f] (fun r w' => r = none ∧ w' = [kJ G q n (fil v f n)]) 0 0) 6 [(0, .ref q), (1, .long v), (3, .int (nI i)), (4, .int (nI n))] [] [kJ G q n (fil v f i)] := by
  intro fu
  induction fu with
  | zero => intro i hi hms; exact absurd hms (Nat.not_lt_zero _)
  | succ fu ih =>
    intro i hi hms
    refine j_iload_n (pc := 6) X dJ7_fill_d0a16_6 rfl 2 rfl ?_
    refine j_iload (pc := 7) X dJ7_fill_d0a16_7 3 rfl ?_
    refine j_icmpN_ge (pc := 9) X (a := i) (b := n) (by omega) (by omega) (tgt := 22) dJ7_fill_d0a16_9 (by decide) (fun c_9 => ?_) (fun c_9 => ?_)
    · skip
      exact j_vret (pc := 22) X dJ7_fill_d0a16_22 ⟨rfl, by rw [show i = n by omega]⟩
    · skip
      refine j_aload_n (pc := 12) X dJ7_fill_d0a16_12 rfl 0 rfl ?_
      refine j_iload_n (pc := 13) X dJ7_fill_d0a16_13 rfl 2 rfl ?_
      refine j_lload_n (pc := 14) X dJ7_fill_d0a16_14 rfl 1 rfl ?_
      refine j_last (pc := 15) X (f2 := (va_up (fil v f i) i v)) (ws' := [kJ G q n (va_up (fil v f i) i v)]) 0 rfl (vp_in_nI (by omega) (by omega)) dJ7_fill_d0a16_15 (by rw [nI_clamp (by omega)]; exact lF_up _ _ _) rfl ?_
      refine j_iinc (pc := 16) X (v := nI (i + 1)) (lv' := [(3, .int (nI (i + 1))), (0, .ref q), (1, .long v), (4, .int (nI n))]) dJ7_fill_d0a16_16 2 rfl (nI_1 _) (by decide) rfl ?_
      refine j_goto (pc := 19) X (tgt := 6) dJ7_fill_d0a16_19 (by decide) ?_
      refine j_lv [1, 2, 0, 3] (lv' := [(0, .ref q), (1, .long v), (3, .int (nI (i + 1))), (4, .int (nI n))]) rfl ?_
      refine j_ws (ws' := [kJ G q n (fil v f (i + 1))]) ?_ ?_
      · (rw [fil_s])
      exact ih (i + 1) (by omega) (by omega)
set_option maxHeartbeats 4000000 in
set_option maxRecDepth 100000 in
theorem mJ7_fill_d0a16 (l : Launch) (G : jG) (q : Nat) (n : Nat) (f : Nat → Int64) (v : Int64) (hn : n < 2147483648) : MV l yJ7_fill_d0a16 wsJ7_fill_d0a16 ({ frames := 0, cells := 0, slots := 0, locals := 0 }) G [.ref q, .long v] [kJ G q n f] (none) [kJ G q n (fil v f n)] := by
  refine MF.ofJ (cc := cJ7_fill_d0a16) (maxL := 5) (ret := none) (own := RJ7) (lv := [(0, .ref q), (1, .long v)]) (by decide) rfl rfl (Nat.le_of_ble_eq_true rfl) rfl ?_
  intro κ X
  refine j_iconst (pc := 0) X (v := nI 0) dJ7_fill_d0a16_0 (by decide) ?_
  refine j_istore_n (pc := 1) X (lv' := [(3, .int (nI 0)), (0, .ref q), (1, .long v)]) dJ7_fill_d0a16_1 rfl (by decide) rfl ?_
  refine j_aload_n (pc := 2) X dJ7_fill_d0a16_2 rfl 1 rfl ?_
  refine j_alenJ (pc := 3) X 0 rfl dJ7_fill_d0a16_3 ?_
  refine j_istore (pc := 4) X (lv' := [(4, .int (nI n)), (3, .int (nI 0)), (0, .ref q), (1, .long v)]) dJ7_fill_d0a16_4 (by decide) rfl ?_
  refine j_lv [2, 3, 1, 0] (lv' := [(0, .ref q), (1, .long v), (3, .int (nI 0)), (4, .int (nI n))]) rfl ?_
  refine j_ws (ws' := [kJ G q n (fil v f 0)]) ?_ ?_
  · (rw [fil_0])
  exact mJ7_fill_d0a16_L6 l G q n f v hn κ X    (n - 0 + 1) 0 (by omega) (Nat.lt_succ_self _)

set_option maxHeartbeats 4000000 in
set_option maxRecDepth 100000 in
theorem mX1_commonDivisor_L9 (l : Launch) (G : jG) (a : Nat) (b : Nat) (ha : a < 2 ^ 49) (hb : b < 2 ^ 49) (κ : jK) (X : CX κ l yX1_commonDivisor cX1_commonDivisor 11 RX1 wsX1_commonDivisor (some .long) ({ frames := 0, cells := 0, slots := 0, locals := 0 }) G (va_A [] (js κ).heap.size))    : ∀ (fu : Nat) (st : Nat) (g : Nat) (m : Nat) (hs : st ≤ 100) (he : euc a b st g m) (_ : 100 - st < fu), JJ κ 11 G (va_A [] (js κ).heap.size) 0 0 (jQ κ G [] (fun r w' => r = some (.long (lN (Nat.gcd a b))) ∧ w' = []) 0 0) 9 [(4, .long (lN g)), (6, .long (lN m)), (8, .int (nI st))] [] [] := by
  intro fu
  induction fu with
  | zero => intro st g m hs he hms; exact absurd hms (Nat.not_lt_zero _)
  | succ fu ih =>
    intro st g m hs he hms
    refine j_iload (pc := 9) X dX1_commonDivisor_9 2 rfl ?_
    refine j_bipush (pc := 11) X (v := nI 100) dX1_commonDivisor_11 (by decide) ?_
    refine j_icmpN_ge (pc := 13) X (a := st) (b := 100) (by omega) (by omega) (tgt := 44) dX1_commonDivisor_13 (by decide) (fun c_13 => ?_) (fun c_13 => ?_)
    · skip
      refine j_lload (pc := 44) X dX1_commonDivisor_44 0 rfl ?_
      exact j_lret (pc := 46) X dX1_commonDivisor_46 ⟨by rw [euc_end he ha hb (Or.inl (by omega))], rfl⟩
    · skip
      refine j_lload (pc := 16) X dX1_commonDivisor_16 1 rfl ?_
      refine j_lconst (pc := 18) X (v := 0) dX1_commonDivisor_18 (by decide) ?_
      refine j_lcmp (pc := 19) X dX1_commonDivisor_19 ?_
      refine j_ifc_eq (pc := 20) X (tgt := 44) dX1_commonDivisor_20 (by decide) (fun c_20 => ?_) (fun c_20 => ?_)
      · skip
        refine j_lload (pc := 44) X dX1_commonDivisor_44 0 rfl ?_
        exact j_lret (pc := 46) X dX1_commonDivisor_46 ⟨by rw [euc_end he ha hb (Or.inr ((pk_lEQ (by have := he.2.2.2.2; omega) (by decide : 0 < 2 ^ 63)).mp c_20))], rfl⟩
      · skip
        refine j_lload (pc := 23) X dX1_commonDivisor_23 0 rfl ?_
        refine j_lload (pc := 25) X dX1_commonDivisor_25 1 rfl ?_
        refine j_lrem (pc := 27) X dX1_commonDivisor_27 (by exact c_20) ?_
        refine j_topl (z := lN (g % m)) (lrem_lN (by have := he.2.2.2.1; omega) (by rcases Nat.eq_zero_or_pos m with q | q; exact absurd (by rw [q]; rfl) c_20; exact q) (by have := he.2.2.2.2; omega)) ?_
        refine j_lstore (pc := 28) X (lv' := [(9, .long (lN (g % m))), (4, .long (lN g)), (6, .long (lN m)), (8, .int (nI st))]) dX1_commonDivisor_28 (by decide) rfl ?_
        refine j_lload (pc := 30) X dX1_commonDivisor_30 2 rfl ?_
        refine j_lstore (pc := 32) X (lv' := [(4, .long (lN m)), (9, .long (lN (g % m))), (6, .long (lN m)), (8, .int (nI st))]) dX1_commonDivisor_32 (by decide) rfl ?_
        refine j_lload (pc := 34) X dX1_commonDivisor_34 1 rfl ?_
        refine j_lstore (pc := 36) X (lv' := [(6, .long (lN (g % m))), (4, .long (lN m)), (9, .long (lN (g % m))), (8, .int (nI st))]) dX1_commonDivisor_36 (by decide) rfl ?_
        refine j_iinc (pc := 38) X (v := nI (st + 1)) (lv' := [(8, .int (nI (st + 1))), (6, .long (lN (g % m))), (4, .long (lN m)), (9, .long (lN (g % m)))]) dX1_commonDivisor_38 3 rfl (nI_1 _) (by decide) rfl ?_
        refine j_goto (pc := 41) X (tgt := 9) dX1_commonDivisor_41 (by decide) ?_
        refine j_lv [2, 1, 0] (lv' := [(4, .long (lN m)), (6, .long (lN (g % m))), (8, .int (nI (st + 1)))]) rfl ?_
        exact ih (st + 1) m (g % m) (by omega) (euc_s he (fun e => c_20 (by rw [e]; rfl))) (by omega)
set_option maxHeartbeats 4000000 in
set_option maxRecDepth 100000 in
theorem mX1_commonDivisor (l : Launch) (G : jG) (a : Nat) (b : Nat) (ha : a < 2 ^ 49) (hb : b < 2 ^ 49) : MV l yX1_commonDivisor wsX1_commonDivisor ({ frames := 0, cells := 0, slots := 0, locals := 0 }) G [.long (lN a), .long (lN b)] [] (some (.long (lN (Nat.gcd a b)))) [] := by
  refine MF.ofJ (cc := cX1_commonDivisor) (maxL := 11) (ret := (some .long)) (own := RX1) (lv := [(0, .long (lN a)), (2, .long (lN b))]) (by decide) rfl rfl (Nat.le_of_ble_eq_true rfl) rfl ?_
  intro κ X
  refine j_lload_n (pc := 0) X dX1_commonDivisor_0 rfl 0 rfl ?_
  refine j_lstore (pc := 1) X (lv' := [(4, .long (lN a)), (0, .long (lN a)), (2, .long (lN b))]) dX1_commonDivisor_1 (by decide) rfl ?_
  refine j_lload_n (pc := 3) X dX1_commonDivisor_3 rfl 2 rfl ?_
  refine j_lstore (pc := 4) X (lv' := [(6, .long (lN b)), (4, .long (lN a)), (0, .long (lN a)), (2, .long (lN b))]) dX1_commonDivisor_4 (by decide) rfl ?_
  refine j_iconst (pc := 6) X (v := nI 0) dX1_commonDivisor_6 (by decide) ?_
  refine j_istore (pc := 7) X (lv' := [(8, .int (nI 0)), (6, .long (lN b)), (4, .long (lN a)), (0, .long (lN a)), (2, .long (lN b))]) dX1_commonDivisor_7 (by decide) rfl ?_
  refine j_lv [2, 1, 0] (lv' := [(4, .long (lN a)), (6, .long (lN b)), (8, .int (nI 0))]) rfl ?_
  exact mX1_commonDivisor_L9 l G a b ha hb κ X    (100 - 0 + 1) 0 a b (by omega) (euc_0 ha hb) (Nat.lt_succ_self _)

set_option maxHeartbeats 4000000 in
set_option maxRecDepth 100000 in
theorem mX1_become (l : Launch) (G : jG) (qf : Nat) (fa : Int64) (fb : Int64) (x : Int64) (k : Nat) (hx : x.toInt.natAbs < 2 ^ 49) (hk0 : 0 < k) (hk : k < 2 ^ 49) : MV l yX1_become wsX1_become ({ frames := 1, cells := 0, slots := 0, locals := 30 }) G [.ref qf, .long x, .long (lN k)] [(qf, .inr (1, [.long fa, .long fb]))] (none) [(qf, .inr (1, [.long (x / lN (gdl x k)), .long (lN k / lN (gdl x k))]))] := by
  refine MF.ofJ (cc := cX1_become) (maxL := 7) (ret := none) (own := RX1) (lv := [(0, .ref qf), (1, .long x), (3, .long (lN k))]) (by decide) rfl rfl (Nat.le_of_ble_eq_true rfl) rfl ?_
  intro κ X
  have i_X1 : ∀ w ∈ wsX10, w ∈ wsX1_become := by decide +kernel
  refine j_lload_n (pc := 0) X dX1_become_0 rfl 1 rfl ?_
  refine j_labs (pc := 1) X dX1_become_1 (by decide +kernel) (by decide +kernel) (by decide +kernel) (by decide +kernel) (by decide) (Nat.le_of_ble_eq_true rfl) (by decide) ?_
  refine j_topl (z := lN x.toInt.natAbs) (abs_lN x hx) ?_
  refine j_lload_n (pc := 4) X dX1_become_4 rfl 2 rfl ?_
  refine j_clP (pc := 5) X [] rfl (j_rS X (As := [.long (lN x.toInt.natAbs), .long (lN k)]) (rest := []) 2 (mX1_commonDivisor l G x.toInt.natAbs k (by first | assumption | omega | exact ob_s (by omega) | exact ob_n) (by first | assumption | omega | exact ob_s (by omega) | exact ob_n)) gX1_become_X1_commonDivisor rfl rfl rfl (by decide +kernel) ⟨Nat.le_of_ble_eq_true rfl, Nat.le_of_ble_eq_true rfl⟩ rfl [] rfl rfl rfl (Nat.le_of_ble_eq_true rfl) dX1_become_5 ⟨Nat.le_of_ble_eq_true rfl, Nat.le_of_ble_eq_true rfl⟩) ?_
  refine j_topl (z := lN (gdl x k)) (rfl) ?_
  refine j_lstore (pc := 8) X (lv' := [(5, .long (lN (gdl x k))), (0, .ref qf), (1, .long x), (3, .long (lN k))]) dX1_become_8 (by decide) rfl ?_
  refine j_lload (pc := 10) X dX1_become_10 0 rfl ?_
  refine j_lconst (pc := 12) X (v := 0) dX1_become_12 (by decide) ?_
  refine j_lcmp (pc := 13) X dX1_become_13 ?_
  refine j_ifc_le (pc := 14) X (tgt := 33) dX1_become_14 (by decide) (fun c_14 => ?_) (fun c_14 => ?_)
  · skip
    exact absurd c_14 (lN_gt0 (gdl_pos hk0) (by have := gdl_le (x := x) hk0; omega))
  · skip
    refine j_aload_n (pc := 17) X dX1_become_17 rfl 1 rfl ?_
    refine j_lload_n (pc := 18) X dX1_become_18 rfl 2 rfl ?_
    refine j_lload (pc := 19) X dX1_become_19 0 rfl ?_
    refine j_ldiv (pc := 21) X dX1_become_21 (by exact lN_ne0 (gdl_pos hk0) (by have := gdl_le (x := x) hk0; omega)) ?_
    refine j_put (pc := 22) X (v := .long (x / (lN (gdl x k)))) (ws' := [(qf, .inr (1, [.long (x / (lN (gdl x k))), .long fb]))]) 1 i_X1 tyX1 tyX1_ok nmX1 0 rfl rfl 0 (by decide) (by decide +kernel) (by decide) (rfl) (rfl) (Nat.le_of_ble_eq_true rfl) dX1_become_22 rfl ?_
    refine j_aload_n (pc := 25) X dX1_become_25 rfl 1 rfl ?_
    refine j_lload_n (pc := 26) X dX1_become_26 rfl 3 rfl ?_
    refine j_lload (pc := 27) X dX1_become_27 0 rfl ?_
    refine j_ldiv (pc := 29) X dX1_become_29 (by exact lN_ne0 (gdl_pos hk0) (by have := gdl_le (x := x) hk0; omega)) ?_
    refine j_put (pc := 30) X (v := .long ((lN k) / (lN (gdl x k)))) (ws' := [(qf, .inr (1, [.long (x / (lN (gdl x k))), .long ((lN k) / (lN (gdl x k)))]))]) 1 i_X1 tyX1 tyX1_ok nmX1 0 rfl rfl 1 (by decide) (by decide +kernel) (by decide) (rfl) (rfl) (Nat.le_of_ble_eq_true rfl) dX1_become_30 rfl ?_
    exact j_vret (pc := 33) X dX1_become_33 ⟨rfl, by simp⟩

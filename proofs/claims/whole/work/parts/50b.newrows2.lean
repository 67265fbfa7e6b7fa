/-! zeros, seen as perhaps-numbers -/
def oz (n : Nat) : Nat → Option Nat := fun k => if k < n then some 0 else none
theorem oz_0 {n k : Nat} (h : k < n) : oF (oz n) k = 0 := by
  simp only [oF, oz, if_pos h]
  rfl
/-- a row's cell says nothing of what lies behind its end -/
theorem j_cgT {κ : jK} {nL : Nat} {G : jG} {A : Nat → Prop} {cs ss : Nat} {Q : State → Prop} {pc : Nat} {lv : List (Nat × Value)} {st : List Value} {ws ws' : va_W} (q0 : Nat) {a n : Nat} {f g : Nat → Option Nat} (ha : ws[q0]? = some (kT G a n f)) (h : ∀ k, k < n → f k = g k) (hw : ws.set q0 (kT G a n g) = ws') (k : JJ κ nL G A cs ss Q pc lv st ws') : JJ κ nL G A cs ss Q pc lv st ws := by
  subst hw
  intro H locs ls hP hD hS hl
  refine k H locs ls (fun j q hq => ?_) (hD.fst ?_) hS hl
  · rw [List.getElem?_set] at hq
    split at hq
    · rename_i e
      split at hq
      · cases hq
        have h1 := hP q0 _ ha
        show H[a]? = some (vp_cell _ _)
        have e2 : vp_cell G.2.2.2.2 (n, .inr (.inr (.inr (.inr g)))) = vp_cell G.2.2.2.2 (n, .inr (.inr (.inr (.inr f)))) := by
          show arrV _ n (fun j => va_rf (g j)) = arrV _ n (fun j => va_rf (f j))
          exact arrV_cg _ n (fun k hk => by rw [h k hk])
        rw [e2]
        exact h1
      · cases hq
    · exact hP j q hq
  · rw [List.map_set]
    refine jset_same _ _ _ ?_
    rw [List.getElem?_map, ha]
    rfl

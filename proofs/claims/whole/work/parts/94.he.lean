-- HEARSAY: fits, could
set_option maxRecDepth 100000 in
set_option maxHeartbeats 400000 in
theorem tie2 {r Z : Row} {P N F U E : Nat} {v1 : Int32} : ∀ (m k : Nat) (X : Row) (q : Int32 × Int32 × Int32 × Int32 × Row), X 0 = q.2.1 → X 1 = q.2.2.1 → itr (wgS r Z P N F U E) m k X 0 = (itr (skS r Z P N F U E v1) m k q).2.1 ∧ itr (wgS r Z P N F U E) m k X 1 = (itr (skS r Z P N F U E v1) m k q).2.2.1 := by
  intro m
  induction m with
  | zero => intro k X q h1 h2; exact ⟨h1, h2⟩
  | succ m ih =>
    intro k X q h1 h2
    refine ih (k + 1) (wgS r Z P N F U E k X) (skS r Z P N F U E v1 k q) ?_ ?_
    · unfold wgS skS
      split
      · rw [up_ne (by omega), up_ne (by omega), up_eq, h1]
      · exact h1
    · unfold wgS skS
      split
      · rw [up_ne (by omega), up_eq, h2]
      · exact h2
set_option maxRecDepth 100000 in
set_option maxHeartbeats 400000 in
theorem wgF_01 {X : Row} {j : Nat} (hj : j < 2) : wgF X j = X j := by
  unfold wgF
  split
  · rw [up_ne (by omega)]
  · rfl

-- HEARSAY: surely
set_option maxRecDepth 100000 in
set_option maxHeartbeats 400000 in
theorem al_1 : ∀ s, s < 16 → m1 &&& nI s = nI s := by decide
set_option maxRecDepth 100000 in
set_option maxHeartbeats 400000 in
theorem al_2 : ∀ U, U < 5 → ∀ s, s < 16 → s < 2 ^ U → nI (2 ^ U - 1) &&& nI s = nI s := by decide
set_option maxRecDepth 100000 in
set_option maxHeartbeats 400000 in
theorem tie3 {r Z : Row} {P N F U E : Nat} {v1 : Int32} (hU : U < 5) : ∀ (m k c : Nat) (X : Row) (q : Int32 × Int32 × Int32 × Int32 × Row), k + m = 2 ^ U → c ≤ k → X 0 = nI c → q.2.1 = nI c → ((c = 0 ∧ X 2 = m1 ∧ q.2.2.2.1 = nI (2 ^ U - 1)) ∨ (0 < c ∧ X 2 = q.2.2.2.1)) → ∃ c', c' ≤ 2 ^ U ∧ itr (wgS r Z P N F U E) m k X 0 = nI c' ∧ (itr (skS r Z P N F U E v1) m k q).2.1 = nI c' ∧ (0 < c' → itr (wgS r Z P N F U E) m k X 2 = (itr (skS r Z P N F U E v1) m k q).2.2.2.1) := by
  have hp16 := (pw_U U hU).2
  intro m
  induction m with
  | zero =>
    intro k c X q hk hc h1 h2 h3
    refine ⟨c, by omega, h1, h2, fun z => ?_⟩
    rcases h3 with w | w
    · omega
    · exact w.2
  | succ m ih =>
    intro k c X q hk hc h1 h2 h3
    by_cases hf : fi r Z P N F U E k = true
    · refine ih (k + 1) (c + 1) (wgS r Z P N F U E k X) (skS r Z P N F U E v1 k q) (by omega) (by omega) ?_ ?_ (Or.inr ⟨by omega, ?_⟩)
      · unfold wgS
        rw [if_pos hf, up_ne (by omega), up_ne (by omega), up_eq, h1, nI_add]
      · unfold skS
        rw [if_pos hf]
        show q.2.1 + nI 1 = _
        rw [h2, nI_add]
      · unfold wgS skS
        rw [if_pos hf, if_pos hf, up_eq]
        show X 2 &&& nI k = q.2.2.2.1 &&& nI k
        rcases h3 with w | w
        · rw [w.2.1, w.2.2, al_1 k (by omega), al_2 U hU k (by omega) (by omega)]
        · rw [w.2]
    · have e1 : wgS r Z P N F U E k X = X := if_neg hf
      have e2 : skS r Z P N F U E v1 k q = q := if_neg hf
      show ∃ c', c' ≤ 2 ^ U ∧ itr _ m (k + 1) (wgS r Z P N F U E k X) 0 = nI c' ∧ (itr _ m (k + 1) (skS r Z P N F U E v1 k q)).2.1 = nI c' ∧ (0 < c' → itr _ m (k + 1) (wgS r Z P N F U E k X) 2 = (itr _ m (k + 1) (skS r Z P N F U E v1 k q)).2.2.2.1)
      rw [e1, e2]
      exact ih (k + 1) c X q (by omega) (by omega) h1 h2 h3

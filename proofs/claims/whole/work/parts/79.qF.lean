-- TWO TABLES, ASKED
def my (l p : Nat) : Bool := decide (nI p &&& (nI l ^^^ m1) = 0) && decide (nI p &&& (nI l &&& -nI l) = (nI l &&& -nI l))
set_option maxRecDepth 100000 in
set_option maxHeartbeats 400000 in
theorem my_1 : ∀ l, l < 32 → 0 < l → ∃ f, f < 32 ∧ 1 ≤ f ∧ f ≤ l ∧ nI l &&& -nI l = nI f := by decide
set_option maxRecDepth 100000 in
set_option maxHeartbeats 400000 in
theorem my_2 : ∀ l, l < 32 → ∀ p, p < 32 → nI p &&& (nI l ^^^ m1) = 0 → nI l &&& nI p = nI p := by decide
set_option maxRecDepth 100000 in
set_option maxHeartbeats 400000 in
theorem my_3 : ∀ l, l < 32 → 0 < l → ∀ p, p < 32 → ((nI p &&& (nI l &&& -nI l) = 0) ↔ ¬ (nI p &&& (nI l &&& -nI l) = (nI l &&& -nI l))) := by decide
set_option maxRecDepth 100000 in
set_option maxHeartbeats 400000 in
theorem my_4 : ∀ l, l < 32 → ∀ f, f < 32 → nI l &&& -nI l = nI f → ∀ p, p < f → my l p = false := by decide
set_option maxRecDepth 100000 in
set_option maxHeartbeats 400000 in
theorem lv_n : ∀ P, P < 6 → ∀ d, d < 32 → ∃ l, l < 32 ∧ ((nI 1 <<< (nI P &&& 31)) - nI 1) &&& (nI d ^^^ m1) = nI l ∧ ∀ k, k < 5 → bt (nI l) k = true → bt (nI d) k = false := by decide

-- HEARSAY: which set is the i-th
def cn (p : Nat → Bool) : Nat → Nat
  | 0 => 0
  | k + 1 => cn p k + cond (p k) 1 0
def pfi (p : Nat → Bool) (i : Int32) (k : Nat) : Bool := p k && decide (nI (cn p k) = i)
set_option maxRecDepth 100000 in
set_option maxHeartbeats 400000 in
theorem cn_le (p : Nat → Bool) : ∀ k, cn p k ≤ k := by
  intro k
  induction k with
  | zero => exact Nat.le_refl _
  | succ k ih =>
    unfold cn
    cases p k
    · show cn p k + 0 ≤ k + 1; omega
    · show cn p k + 1 ≤ k + 1; omega
set_option maxRecDepth 100000 in
set_option maxHeartbeats 400000 in
theorem cn_mono (p : Nat → Bool) (k : Nat) : ∀ m, cn p k ≤ cn p (k + m) := by
  intro m
  induction m with
  | zero => exact Nat.le_refl _
  | succ m ih =>
    show cn p k ≤ cn p (k + m) + _
    omega
set_option maxRecDepth 100000 in
set_option maxHeartbeats 400000 in
theorem pfi_uni {p : Nat → Bool} {i : Int32} {s u : Nat} (hsu : s < u) (hu : u < 5000) (h1 : pfi p i s = true) (h2 : pfi p i u = true) : False := by
  unfold pfi at h1 h2
  rw [Bool.and_eq_true] at h1 h2
  have e1 := of_decide_eq_true h1.2
  have e2 := of_decide_eq_true h2.2
  rw [← e2, eq_eq (by have := cn_le p s; omega) (by have := cn_le p u; omega)] at e1
  have h3 := cn_mono p (s + 1) (u - (s + 1))
  rw [show s + 1 + (u - (s + 1)) = u by omega] at h3
  have h4 : cn p (s + 1) = cn p s + 1 := by show cn p s + cond (p s) 1 0 = _; rw [h1.1]; rfl
  omega
def pfS (p : Nat → Bool) (i : Int32) (k : Nat) : Option Nat → Prop
  | none => ∀ j, j < k → pfi p i j = false
  | some s => s < k ∧ pfi p i s = true
set_option maxRecDepth 100000 in
set_option maxHeartbeats 400000 in
theorem pfS_s {p : Nat → Bool} {i : Int32} {k : Nat} {b : Option Nat} (h : pfS p i k b) (hk : pfi p i k = false) : pfS p i (k + 1) b := by
  cases b with
  | none =>
    intro j hj
    by_cases z : j = k
    · rw [z]; exact hk
    · exact h j (by omega)
  | some s => exact ⟨by have := h.1; omega, h.2⟩
set_option maxRecDepth 100000 in
set_option maxHeartbeats 400000 in
theorem pfS_uni {p : Nat → Bool} {i : Int32} {k : Nat} (hk : k < 5000) {b c : Option Nat} (h : pfS p i k b) (q : pfS p i k c) : b = c := by
  cases b with
  | none =>
    cases c with
    | none => rfl
    | some s => have := h s q.1; rw [q.2] at this; cases this
  | some s =>
    cases c with
    | none => have := q s h.1; rw [h.2] at this; cases this
    | some u =>
      rcases Nat.lt_trichotomy s u with z | z | z
      · exact (pfi_uni z (by have := q.1; omega) h.2 q.2).elim
      · rw [z]
      · exact (pfi_uni z (by have := h.1; omega) q.2 h.2).elim
def om : Option Nat → Int32
  | none => m1
  | some s => nI s
set_option maxRecDepth 100000 in
set_option maxHeartbeats 400000 in
theorem sk_pf {r Z : Row} {P N F U E : Nat} {v1 : Int32} : ∀ (m k : Nat) (b : Option Nat) (q : Int32 × Int32 × Int32 × Int32 × Row), q.1 = om b → q.2.1 = nI (cn (fi r Z P N F U E) k) → pfS (fi r Z P N F U E) v1 k b → ∃ b', (itr (skS r Z P N F U E v1) m k q).1 = om b' ∧ pfS (fi r Z P N F U E) v1 (k + m) b' := by
  intro m
  induction m with
  | zero => intro k b q h1 _ h3; exact ⟨b, h1, h3⟩
  | succ m ih =>
    intro k b q h1 h2 h3
    show ∃ b', (itr _ m (k + 1) (skS r Z P N F U E v1 k q)).1 = om b' ∧ _
    rw [show k + (m + 1) = k + 1 + m by omega]
    cases hf : fi r Z P N F U E k with
    | false =>
      have e2 : skS r Z P N F U E v1 k q = q := if_neg (by rw [hf]; decide)
      rw [e2]
      refine ih (k + 1) b q h1 ?_ (pfS_s h3 (by unfold pfi; rw [hf]; rfl))
      rw [h2]
      show _ = nI (cn (fi r Z P N F U E) k + cond (fi r Z P N F U E k) 1 0)
      rw [hf]
      rfl
    | true =>
      have e3 : nI (cn (fi r Z P N F U E) (k + 1)) = q.2.1 + nI 1 := by
        rw [h2, nI_add]
        show nI (cn (fi r Z P N F U E) k + cond (fi r Z P N F U E k) 1 0) = _
        rw [hf]
        rfl
      by_cases hv : q.2.1 = v1
      · refine ih (k + 1) (some k) _ ?_ ?_ ⟨by omega, ?_⟩
        · unfold skS
          rw [if_pos hf]
          show (if q.2.1 = v1 then nI k else q.1) = nI k
          rw [if_pos hv]
        · unfold skS
          rw [if_pos hf, e3]
        · unfold pfi
          rw [hf, ← h2, decide_eq_true hv]
          rfl
      · refine ih (k + 1) b _ ?_ ?_ (pfS_s h3 (by unfold pfi; rw [← h2, decide_eq_false hv, Bool.and_false]))
        · unfold skS
          rw [if_pos hf]
          show (if q.2.1 = v1 then nI k else q.1) = om b
          rw [if_neg hv]
          exact h1
        · unfold skS
          rw [if_pos hf, e3]

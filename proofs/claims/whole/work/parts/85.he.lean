-- HEARSAY: the first that is unlike
def fst1 (E : Nat) (p : Nat → Bool) : Option Nat → Prop
  | none => ∀ h, h < E → p h = false
  | some h => h < E ∧ p h = true ∧ ∀ j, j < h → p j = false
set_option maxRecDepth 100000 in
set_option maxHeartbeats 400000 in
theorem bF_fst1 {E : Nat} {p : Nat → Bool} : ∀ m k, k + m = E → (∀ j, j < k → p j = false) → fst1 E p (bF p m k) := by
  intro m
  induction m with
  | zero => intro k hk h; exact fun j hj => h j (by omega)
  | succ m ih =>
    intro k hk h
    unfold bF
    cases e : p k with
    | true => rw [if_pos rfl]; exact ⟨by omega, e, h⟩
    | false =>
      rw [if_neg (by decide)]
      refine ih (k + 1) (by omega) (fun j hj => ?_)
      by_cases z : j = k
      · rw [z]; exact e
      · exact h j (by omega)
set_option maxRecDepth 100000 in
set_option maxHeartbeats 400000 in
theorem fst1_uni {E : Nat} {p : Nat → Bool} {b c : Option Nat} (h : fst1 E p b) (q : fst1 E p c) : b = c := by
  cases b with
  | none =>
    cases c with
    | none => rfl
    | some j => have := h j q.1; rw [q.2.1] at this; cases this
  | some i =>
    cases c with
    | none => have := q i h.1; rw [h.2.1] at this; cases this
    | some j =>
      rcases Nat.lt_trichotomy i j with z | z | z
      · have := q.2.2 i z; rw [h.2.1] at this; cases this
      · rw [z]
      · have := h.2.2 j z; rw [q.2.1] at this; cases this
set_option maxRecDepth 100000 in
set_option maxHeartbeats 400000 in
theorem fst1_cg {E : Nat} {p q : Nat → Bool} {b : Option Nat} (h : fst1 E p b) (e : ∀ j, j < E → p j = q j) : fst1 E q b := by
  cases b with
  | none => exact fun j hj => by rw [← e j hj]; exact h j hj
  | some i => exact ⟨h.1, by rw [← e i h.1]; exact h.2.1, fun j hj => by rw [← e j (by have := h.1; omega)]; exact h.2.2 j hj⟩
def bd (r : Row) (P N F : Nat) (R : Row) (f : Nat → Nat) (h : Nat) : Bool := !decide (oi (dsh r P N F R (f h)) = r (59 + 2 * h))
-- those of the days before d, and of day d those before k
def bq (b : Nat → Bool) (f : Nat → Nat) (d k h : Nat) : Bool := b h && (decide (f h < d) || (decide (f h = d) && decide (h < k)))
set_option maxRecDepth 100000 in
set_option maxHeartbeats 400000 in
theorem bq_same {b : Nat → Bool} {f : Nat → Nat} {d k : Nat} (hk : f k ≠ d ∨ b k = false) (h : Nat) : bq b f d k h = bq b f d (k + 1) h := by
  unfold bq
  by_cases z : h = k
  · subst z
    rcases hk with q | q
    · rw [decide_eq_false q]; rfl
    · rw [q]; rfl
  · by_cases y : h < k
    · rw [decide_eq_true y, decide_eq_true (show h < k + 1 by omega)]
    · rw [decide_eq_false y, decide_eq_false (show ¬ h < k + 1 by omega)]
set_option maxRecDepth 100000 in
set_option maxHeartbeats 400000 in
theorem bq_at {b : Nat → Bool} {f : Nat → Nat} {d k : Nat} (h1 : f k = d) (h2 : b k = true) : bq b f d (k + 1) k = true ∧ bq b f d k k = false := by
  unfold bq
  rw [h2, h1, decide_eq_true (show k < k + 1 by omega), decide_eq_false (Nat.lt_irrefl k), decide_eq_false (Nat.lt_irrefl d), decide_eq_true rfl]
  exact ⟨rfl, rfl⟩
set_option maxRecDepth 100000 in
set_option maxHeartbeats 400000 in
theorem bq_ne {b : Nat → Bool} {f : Nat → Nat} {d k h : Nat} (z : h ≠ k) : bq b f d k h = bq b f d (k + 1) h := by
  unfold bq
  by_cases y : h < k
  · rw [decide_eq_true y, decide_eq_true (show h < k + 1 by omega)]
  · rw [decide_eq_false y, decide_eq_false (show ¬ h < k + 1 by omega)]
set_option maxRecDepth 100000 in
set_option maxHeartbeats 400000 in
theorem bq_nx {b : Nat → Bool} {f : Nat → Nat} {d E h : Nat} (hh : h < E) : bq b f d E h = bq b f (d + 1) 0 h := by
  unfold bq
  rw [decide_eq_true hh, Bool.and_true, decide_eq_false (Nat.not_lt_zero h), Bool.and_false, Bool.or_false]
  by_cases y : f h < d
  · rw [decide_eq_true y, decide_eq_true (show f h < d + 1 by omega), Bool.true_or]
  · by_cases x : f h = d
    · rw [decide_eq_false y, decide_eq_true x, decide_eq_true (show f h < d + 1 by omega), Bool.false_or]
    · rw [decide_eq_false y, decide_eq_false x, decide_eq_false (show ¬ f h < d + 1 by omega), Bool.false_or]
section HE3
variable {S S1 : Mem} {J : MeJ} {T : Nat → Nat} {t a w P N F U E D : Nat}
set_option maxRecDepth 100000 in
set_option maxHeartbeats 400000 in
theorem l_find (htl : tlA t) (hE : S t 7 = nI E) (hE6 : E ≤ 6) {f : Nat → Nat} {R : Row} (hd : ∀ k, k < E → 1 ≤ f k ∧ f k ≤ 60 ∧ S t (60 + 2 * k) = nI (f k)) (h39 : ∀ k, k < E → S 39 (f k) = oi (dsh (S t) P N F R (f k))) : ∀ m k g, k + m = E → m < g → lX3_firstUnlike_69 g 38 t (nI k) (hp S J T) = some (oi (bF (bd (S t) P N F R f) m k), hp S J T) := by
  intro m
  induction m with
  | zero =>
    intro k g hk hg
    obtain ⟨g, rfl⟩ : ∃ x, g = x + 1 := ⟨g - 1, by omega⟩
    obtain rfl : k = E := by omega
    unfold lX3_firstUnlike_69
    simp (disch := omega) only [fX3_firstUnlike_69, fX3_firstUnlike_109, tl_g7 htl, hE, lt_eq, Nat.lt_irrefl, Option.bind_some, ↓reduceIte, kB_o, bF]
  | succ m ih =>
    intro k g hk hg
    obtain ⟨g, rfl⟩ : ∃ x, g = x + 1 := ⟨g - 1, by omega⟩
    obtain ⟨d1, d2, d3⟩ := hd k (by omega)
    have d4 := h39 k (by omega)
    unfold lX3_firstUnlike_69 bF
    by_cases hc : oi (dsh (S t) P N F R (f k)) = S t (59 + 2 * k)
    · have hb : bd (S t) P N F R f k = false := by unfold bd; rw [decide_eq_true hc]; rfl
      rw [hb, if_neg (by decide), ← ih (k + 1) g (by omega) (by omega)]
      simp (disch := omega) only [fX3_firstUnlike_69, fX3_firstUnlike_78, fX3_firstUnlike_103, tl_g7 htl, hE, lt_eq, show k < E by omega, Option.bind_some, ↓reduceIte, he_f4, tl_f18 htl, tl_r18 htl, tl_f17 htl, tl_r17 htl, d3, he_r4, d4, hc, kI_1, nI_add]
    · have hb : bd (S t) P N F R f k = true := by unfold bd; rw [decide_eq_false hc]; rfl
      rw [hb, if_pos rfl]
      simp (disch := omega) only [fX3_firstUnlike_69, fX3_firstUnlike_78, fX3_firstUnlike_100, tl_g7 htl, hE, lt_eq, show k < E by omega, Option.bind_some, ↓reduceIte, he_f4, tl_f18 htl, tl_r18 htl, tl_f17 htl, tl_r17 htl, d3, he_r4, d4, hc, oi_some]
end HE3

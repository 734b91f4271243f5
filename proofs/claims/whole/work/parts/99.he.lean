-- HEARSAY: the i-th set, the class
set_option maxRecDepth 100000 in
set_option maxHeartbeats 400000 in
theorem wg_3 {r Z : Row} {P N F U E j : Nat} (hj : j < 32) : ∀ (m k : Nat) (X : Row), k + m ≤ 32 → bt (itr (wgS r Z P N F U E) m k X 3) j = (bt (X 3) j || (decide (k ≤ j) && (decide (j < k + m) && fi r Z P N F U E j))) := by
  intro m
  induction m with
  | zero =>
    intro k X hk
    show bt (X 3) j = _
    by_cases h : k ≤ j
    · rw [decide_eq_false (show ¬ j < k + 0 by omega), Bool.false_and, Bool.and_false, Bool.or_false]
    · rw [decide_eq_false h, Bool.false_and, Bool.or_false]
  | succ m ih =>
    intro k X hk
    show bt (itr _ m (k + 1) (wgS r Z P N F U E k X) 3) j = _
    rw [ih (k + 1) _ (by omega)]
    have e : bt (wgS r Z P N F U E k X 3) j = (bt (X 3) j || (decide (j = k) && fi r Z P N F U E k)) := by
      unfold wgS
      cases hf : fi r Z P N F U E k with
      | true =>
        rw [if_pos rfl, up_ne (by omega), up_ne (by omega), up_ne (by omega), up_eq, b_or, b_sh k (by omega) hj, Bool.and_true]
      | false =>
        rw [if_neg (by decide), Bool.and_false, Bool.or_false]
    rw [e]
    by_cases h1 : j = k
    · subst h1
      rw [decide_eq_true rfl, decide_eq_false (show ¬ j + 1 ≤ j by omega), decide_eq_true (Nat.le_refl j), decide_eq_true (show j < j + (m + 1) by omega), Bool.false_and, Bool.or_false, Bool.true_and, Bool.true_and]
    · rw [decide_eq_false h1, Bool.false_and, Bool.or_false]
      by_cases h2 : k ≤ j
      · rw [decide_eq_true h2, decide_eq_true (show k + 1 ≤ j by omega), show k + 1 + m = k + (m + 1) by omega]
      · rw [decide_eq_false h2, decide_eq_false (show ¬ k + 1 ≤ j by omega), Bool.false_and, Bool.false_and]
set_option maxRecDepth 100000 in
set_option maxHeartbeats 400000 in
theorem wgF_3 {X : Row} : wgF X 3 = X 3 := by
  unfold wgF
  split
  · rw [up_ne (by omega)]
  · rfl
set_option maxRecDepth 100000 in
set_option maxHeartbeats 400000 in
theorem cn_cg {p q : Nat → Bool} : ∀ k, (∀ j, j < k → p j = q j) → cn p k = cn q k := by
  intro k
  induction k with
  | zero => intro _; rfl
  | succ k ih =>
    intro h
    show cn p k + cond (p k) 1 0 = cn q k + cond (q k) 1 0
    rw [ih (fun j hj => h j (by omega)), h k (by omega)]
set_option maxRecDepth 100000 in
set_option maxHeartbeats 400000 in
theorem pfi_cg {p q : Nat → Bool} {i : Int32} {k : Nat} (h : ∀ j, j ≤ k → p j = q j) : pfi p i k = pfi q i k := by
  unfold pfi
  rw [cn_cg k (fun j hj => h j (by omega)), h k (Nat.le_refl _)]
-- beyond the sets nothing fits
set_option maxRecDepth 100000 in
set_option maxHeartbeats 400000 in
theorem pfS_x {p q : Nat → Bool} {i : Int32} {n : Nat} {b : Option Nat} (h : pfS q i n b) (hp : ∀ j, p j = (decide (j < n) && q j)) (m : Nat) : pfS p i (n + m) b := by
  have e : ∀ j, j < n → pfi p i j = pfi q i j := fun j hj => pfi_cg (fun k hk => by rw [hp k, decide_eq_true (show k < n by omega), Bool.true_and])
  cases b with
  | none =>
    intro j _
    by_cases z : j < n
    · rw [e j z]; exact h j z
    · unfold pfi
      rw [hp j, decide_eq_false z]
      rfl
  | some s => exact ⟨by have := h.1; omega, by rw [e s h.1]; exact h.2⟩
section HE14
variable {S S0 : Mem} {J : MeJ} {T : Nat → Nat} {t P N F U E : Nat}
set_option maxRecDepth 100000 in
set_option maxHeartbeats 400000 in
theorem c_isFit {k : Nat} (hk : k < 32) : gX3_isFitting 38 (nI k) (hp S J T) = some (bI (bt (S 38 3) k), hp S J T) := by
  cases e : bt (S 38 3) k with
  | true => simp (disch := omega) only [gX3_isFitting, fX3_isFitting_0, fX3_isFitting_12, fX3_isFitting_16, fX3_isFitting_17, he_g3, kI_1, kI_0, Option.bind_some, n35, n9, n19, n51, n59, nI_add, ix2, ix8, ix22, ix5, ↓reduceIte, bt_eq, e, n1_0, n11, false_or, if_true, bI_t]
  | false => simp (disch := omega) only [gX3_isFitting, fX3_isFitting_0, fX3_isFitting_12, fX3_isFitting_16, fX3_isFitting_17, he_g3, kI_1, kI_0, Option.bind_some, n35, n9, n19, n51, n59, nI_add, ix2, ix8, ix22, ix5, ↓reduceIte, bt_eq, e, Bool.false_eq_true, n0_0, true_or, if_true, bI_f]
set_option maxRecDepth 100000 in
set_option maxHeartbeats 400000 in
theorem l_setAt {i : Int32} : ∀ m k g v, k + m = 16 → m < g → v + nI (cn (bt (S 38 3)) k) = i → pfS (bt (S 38 3)) i k none → ∃ b, lX3_setAt_4 g 38 v (nI k) (hp S J T) = some (om b, hp S J T) ∧ pfS (bt (S 38 3)) i 16 b := by
  intro m
  induction m with
  | zero =>
    intro k g v hk hg hv h
    obtain ⟨g, rfl⟩ : ∃ x, g = x + 1 := ⟨g - 1, by omega⟩
    obtain rfl : k = 16 := by omega
    refine ⟨none, ?_, h⟩
    unfold lX3_setAt_4
    simp (disch := omega) only [fX3_setAt_4, fX3_setAt_33, kB_16, kI_n, lt_eq, Nat.lt_irrefl, ↓reduceIte, om]
  | succ m ih =>
    intro k g v hk hg hv h
    obtain ⟨g, rfl⟩ : ∃ x, g = x + 1 := ⟨g - 1, by omega⟩
    have hc16 := cn_le (bt (S 38 3)) k
    have hcs : cn (bt (S 38 3)) (k + 1) = cn (bt (S 38 3)) k + cond (bt (S 38 3) k) 1 0 := rfl
    cases e : bt (S 38 3) k with
    | false =>
      obtain ⟨b, k1, k2⟩ := ih (k + 1) g v (by omega) (by omega) (by rw [hcs, e]; exact hv) (pfS_s h (by unfold pfi; rw [e]; rfl))
      refine ⟨b, ?_, k2⟩
      rw [← k1]
      conv => lhs; unfold lX3_setAt_4
      simp (disch := omega) only [fX3_setAt_4, fX3_setAt_10, fX3_setAt_12, fX3_setAt_15, fX3_setAt_27, kB_16, lt_eq, show k < 16 by omega, ↓reduceIte, he_isO, c_isFit, e, bI_f, n0_0, Option.bind_some, kI_1, nI_add]
    | true =>
      by_cases hz : v = 0
      · refine ⟨some k, ?_, by omega, ?_⟩
        · unfold lX3_setAt_4
          simp (disch := omega) only [fX3_setAt_4, fX3_setAt_10, fX3_setAt_12, fX3_setAt_15, fX3_setAt_18, fX3_setAt_22, kB_16, lt_eq, show k < 16 by omega, ↓reduceIte, he_isO, c_isFit, e, bI_t, n1_0, hz, Option.bind_some, om]
        · unfold pfi
          rw [e, Bool.true_and]
          exact decide_eq_true (by rw [← hv, hz, Int32.zero_add])
      · have hne : ¬ nI (cn (bt (S 38 3)) k) = i := fun z => hz (by
          rw [← hv] at z
          have z2 : 0 + nI (cn (bt (S 38 3)) k) = v + nI (cn (bt (S 38 3)) k) := by rw [Int32.zero_add]; exact z
          exact ((Int32.add_left_inj _).mp z2).symm)
        obtain ⟨b, k1, k2⟩ := ih (k + 1) g (v + m1) (by omega) (by omega) (by
          rw [hcs, e]
          show v + m1 + nI (cn (bt (S 38 3)) k + 1) = i
          rw [Nat.add_comm, ← nI_add, Int32.add_assoc, ← Int32.add_assoc m1, show m1 + nI 1 = 0 by decide, Int32.zero_add]
          exact hv) (pfS_s h (by unfold pfi; rw [decide_eq_false hne, Bool.and_false]))
        refine ⟨b, ?_, k2⟩
        rw [← k1]
        conv => lhs; unfold lX3_setAt_4
        simp (disch := omega) only [fX3_setAt_4, fX3_setAt_10, fX3_setAt_12, fX3_setAt_15, fX3_setAt_18, fX3_setAt_24, fX3_setAt_27, kB_16, lt_eq, show k < 16 by omega, ↓reduceIte, he_isO, c_isFit, e, bI_t, n1_0, hz, Option.bind_some, kI_1, kI_n, nI_add]
end HE14

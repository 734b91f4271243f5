-- TWO TABLES, ASKED
def my (l p : Nat) : Bool := decide (nI p &&& (nI l ^^^ m1) = 0) && decide (nI p &&& (nI l &&& -nI l) = (nI l &&& -nI l))
set_option maxRecDepth 100000 in
set_option maxHeartbeats 400000 in
theorem my_1 : ∀ l, l < 32 → 0 < l → ∃ f, f < 32 ∧ 1 ≤ f ∧ f ≤ l ∧ nI l &&& -nI l = nI f := by decide
set_option maxRecDepth 100000 in
set_option maxHeartbeats 400000 in
theorem my_2 : ∀ l, l < 32 → ∀ p, p < 32 → nI p &&& (nI l ^^^ m1) = 0 → nI l &&& nI p = nI p := by decide
set_option maxRecDepth 100000 in
set_option maxHeartbeats 400000 in
theorem my_3 : ∀ l, l < 32 → 0 < l → ∀ p, p < 32 → ((nI p &&& (nI l &&& -nI l) = 0) ↔ ¬ (nI p &&& (nI l &&& -nI l) = (nI l &&& -nI l))) := by decide
set_option maxRecDepth 100000 in
set_option maxHeartbeats 400000 in
theorem my_4 : ∀ l, l < 32 → ∀ f, f < 32 → nI l &&& -nI l = nI f → ∀ p, p < f → my l p = false := by decide
set_option maxRecDepth 100000 in
set_option maxHeartbeats 400000 in
theorem lv_n : ∀ P, P < 6 → ∀ d, d < 32 → ∃ l, l < 32 ∧ ((nI 1 <<< (nI P &&& 31)) - nI 1) &&& (nI d ^^^ m1) = nI l ∧ ∀ k, k < 5 → bt (nI l) k = true → bt (nI d) k = false := by decide
def tW (r R : Row) (P N l p : Nat) : Int32 := wv r R P N (nI p) + wv r R P N (nI l &&& (nI p ^^^ m1))
def tB (r R : Row) (P N l k : Nat) : Option Nat := am (fun b p => decide (tW r R P N l b < tW r R P N l p)) (my l) (l + 1 - k) k none
def o0 : Option Nat → Int32
  | none => nI 0
  | some k => nI k
def oW (W : Nat → Int32) (z : Int32) : Option Nat → Int32
  | none => z
  | some k => W k
set_option maxRecDepth 100000 in
set_option maxHeartbeats 400000 in
theorem wv_sm {r R : Row} {P N : Nat} {x : Int32} (h : ∀ k, k < N → sm (R (14 + k)) 20) : sm (wv r R P N x) 20 := by
  unfold wv
  cases ms r R P x with
  | none => exact ⟨0, by omega, rfl⟩
  | some p =>
    dsimp only
    cases e : nm r N (sh r R p) with
    | none => exact ⟨0, by omega, rfl⟩
    | some k => exact h k (nm_lt k e)
set_option maxRecDepth 100000 in
set_option maxHeartbeats 400000 in
theorem tW_m1 {r R : Row} {P N l p : Nat} (h : ∀ k, k < N → sm (R (14 + k)) 20) : m1 < tW r R P N l p := by
  obtain ⟨a, ha, ea⟩ := wv_sm (r := r) (P := P) (x := nI p) h
  obtain ⟨b, hb, eb⟩ := wv_sm (r := r) (P := P) (x := nI l &&& (nI p ^^^ m1)) h
  unfold tW
  rw [ea, eb, nI_add]
  have h0 : m1 < (0 : Int32) := by decide
  rcases Nat.eq_zero_or_pos (a + b) with z | z
  · rw [z]; exact h0
  · exact Int32.lt_trans h0 ((nI_ltI (a := 0) (by omega) (by omega)).mpr z)
set_option maxRecDepth 100000 in
set_option maxHeartbeats 400000 in
theorem tB_skip {r R : Row} {P N l f : Nat} (h : ∀ p, p < f → my l p = false) (hf : f ≤ l) : ∀ m k, k + m = f → tB r R P N l k = tB r R P N l f := by
  intro m
  induction m with
  | zero => intro k hk; rw [show k = f by omega]
  | succ m ih =>
    intro k hk
    rw [← ih (k + 1) (by omega)]
    unfold tB
    rw [show l + 1 - k = (l + 1 - (k + 1)) + 1 by omega]
    show am _ _ (l + 1 - (k + 1)) (k + 1) (ams _ (my l) k none) = _
    rw [ams_f (h k (by omega))]
set_option maxRecDepth 100000 in
set_option maxHeartbeats 400000 in
theorem tB_some {r R : Row} {P N l k : Nat} : ∀ j, tB r R P N l k = some j → j < k + (l + 1 - k) := fun j hj => am_lt (fun j hj => by cases hj) j hj
section Q15
variable {S S1 : Mem} {J : MeJ} {T : Nat → Nat} {t a w P N F U E D : Nat} {ht : Bool}
set_option maxRecDepth 100000 in
set_option maxHeartbeats 400000 in
theorem c_worthOfTables (b1 : tlA (T 0)) (hP : S (T 0) 3 = nI P) (hP5 : P ≤ 5) (hN : S (T 0) 4 = nI N) (hN8 : N ≤ 8) (hs : ∀ k, k < P → m1 < sh (S (T 0)) (S 139) k) {l p : Nat} (hl : ((nI 1 <<< (nI P &&& 31)) - nI 1) &&& (S 139 10 ^^^ m1) = nI l) (hlp : nI l &&& nI p = nI p) : gX10_worthOfTables 0 (nI p) (hp S J T) = some (tW (S (T 0)) (S 139) P N l p, hp S J T) := by
  simp (disch := omega) only [gX10_worthOfTables, fX10_worthOfTables_0, fX10_worthOfTables_8, fX10_worthOfTables_11, fX10_worthOfTables_16, fX10_worthOfTables_19, fX10_worthOfTables_25, fX10_worthOfTables_28, lt_f8, lt_f9, pl_isO plA_139, lt_isO, kI_n, Option.bind_some, n35, n9, n19, n51, n59, nI_add, ix2, ix8, ix22, ix5, ↓reduceIte, pl_isO plA_139, lt_isO, c_living plA_139 b1, hP, hl, hlp, c_worthNamedBy b1 hP hP5 hN hN8 hs, tW]
set_option maxRecDepth 100000 in
set_option maxHeartbeats 400000 in
theorem s_best (b1 : tlA (T 0)) (hP : S (T 0) 3 = nI P) (hP5 : P ≤ 5) (hN : S (T 0) 4 = nI N) (hN8 : N ≤ 8) (hs : ∀ k, k < P → m1 < sh (S (T 0)) (S 139) k) (hw : ∀ k, k < N → sm (S 139 (14 + k)) 20) {l p : Nat} (hl32 : l < 32) (hpl : p < l + 1) (hl : ((nI 1 <<< (nI P &&& 31)) - nI 1) &&& (S 139 10 ^^^ m1) = nI l) {b : Option Nat} (K : Nat → Int32 → Int32 → Int32 → Int32 → Int32 → aH → Option (Int32 × aH)) : fX10_bestFirstTable_25 K 0 (nI l) (nI l &&& -nI l) (o0 b) (oW (tW (S (T 0)) (S 139) P N l) m1 b) (nI p) (hp S J T) = K 0 (nI l) (nI l &&& -nI l) (o0 (ams (fun b p => decide (tW (S (T 0)) (S 139) P N l b < tW (S (T 0)) (S 139) P N l p)) (my l) p b)) (oW (tW (S (T 0)) (S 139) P N l) m1 (ams (fun b p => decide (tW (S (T 0)) (S 139) P N l b < tW (S (T 0)) (S 139) P N l p)) (my l) p b)) (nI (p + 1)) (hp S J T) := by
  by_cases h1 : nI p &&& (nI l ^^^ m1) = 0
  · by_cases h2 : nI p &&& (nI l &&& -nI l) = (nI l &&& -nI l)
    · have hm : my l p = true := by unfold my; rw [decide_eq_true h1, decide_eq_true h2]; rfl
      have hc := c_worthOfTables (J := J) b1 hP hP5 hN hN8 hs hl (my_2 l hl32 p (by omega) h1)
      cases b with
      | none =>
        rw [ams_n hm]
        simp (disch := omega) only [gX10_bestFirstTable, fX10_bestFirstTable_0, fX10_bestFirstTable_8, fX10_bestFirstTable_11, fX10_bestFirstTable_25, fX10_bestFirstTable_31, fX10_bestFirstTable_40, fX10_bestFirstTable_48, fX10_bestFirstTable_52, fX10_bestFirstTable_53, fX10_bestFirstTable_60, fX10_bestFirstTable_63, fX10_bestFirstTable_66, fX10_bestFirstTable_71, fX10_bestFirstTable_77, fX10_bestFirstTable_80, fX10_bestFirstTable_82, fX10_bestFirstTable_88, lt_f8, lt_f9, kI_0, kI_n, kI_1, lt_isO, Option.bind_some, n35, n9, n19, n51, n59, nI_add, ix2, ix8, ix22, ix5, ↓reduceIte, lt_isO, lt_eq, show ¬ l < p by omega, h1, h2, n1_0, hc, oW, o0, tW_m1 hw]
      | some j =>
        by_cases h3 : tW (S (T 0)) (S 139) P N l j < tW (S (T 0)) (S 139) P N l p
        · rw [ams_t hm (decide_eq_true h3)]
          simp (disch := omega) only [gX10_bestFirstTable, fX10_bestFirstTable_0, fX10_bestFirstTable_8, fX10_bestFirstTable_11, fX10_bestFirstTable_25, fX10_bestFirstTable_31, fX10_bestFirstTable_40, fX10_bestFirstTable_48, fX10_bestFirstTable_52, fX10_bestFirstTable_53, fX10_bestFirstTable_60, fX10_bestFirstTable_63, fX10_bestFirstTable_66, fX10_bestFirstTable_71, fX10_bestFirstTable_77, fX10_bestFirstTable_80, fX10_bestFirstTable_82, fX10_bestFirstTable_88, lt_f8, lt_f9, kI_0, kI_n, kI_1, lt_isO, Option.bind_some, n35, n9, n19, n51, n59, nI_add, ix2, ix8, ix22, ix5, ↓reduceIte, lt_isO, lt_eq, show ¬ l < p by omega, h1, h2, n1_0, hc, oW, o0, h3]
        · rw [ams_e hm (decide_eq_false h3)]
          simp (disch := omega) only [gX10_bestFirstTable, fX10_bestFirstTable_0, fX10_bestFirstTable_8, fX10_bestFirstTable_11, fX10_bestFirstTable_25, fX10_bestFirstTable_31, fX10_bestFirstTable_40, fX10_bestFirstTable_48, fX10_bestFirstTable_52, fX10_bestFirstTable_53, fX10_bestFirstTable_60, fX10_bestFirstTable_63, fX10_bestFirstTable_66, fX10_bestFirstTable_71, fX10_bestFirstTable_77, fX10_bestFirstTable_80, fX10_bestFirstTable_82, fX10_bestFirstTable_88, lt_f8, lt_f9, kI_0, kI_n, kI_1, lt_isO, Option.bind_some, n35, n9, n19, n51, n59, nI_add, ix2, ix8, ix22, ix5, ↓reduceIte, lt_isO, lt_eq, show ¬ l < p by omega, h1, h2, n1_0, hc, oW, o0, h3]
    · rw [ams_f (by unfold my; rw [decide_eq_false h2, Bool.and_false])]
      simp (disch := omega) only [gX10_bestFirstTable, fX10_bestFirstTable_0, fX10_bestFirstTable_8, fX10_bestFirstTable_11, fX10_bestFirstTable_25, fX10_bestFirstTable_31, fX10_bestFirstTable_40, fX10_bestFirstTable_48, fX10_bestFirstTable_52, fX10_bestFirstTable_53, fX10_bestFirstTable_60, fX10_bestFirstTable_63, fX10_bestFirstTable_66, fX10_bestFirstTable_71, fX10_bestFirstTable_77, fX10_bestFirstTable_80, fX10_bestFirstTable_82, fX10_bestFirstTable_88, lt_f8, lt_f9, kI_0, kI_n, kI_1, lt_isO, Option.bind_some, n35, n9, n19, n51, n59, nI_add, ix2, ix8, ix22, ix5, ↓reduceIte, lt_isO, lt_eq, show ¬ l < p by omega, h1, h2, n0_0]
  · rw [ams_f (by unfold my; rw [decide_eq_false h1, Bool.false_and])]
    simp (disch := omega) only [gX10_bestFirstTable, fX10_bestFirstTable_0, fX10_bestFirstTable_8, fX10_bestFirstTable_11, fX10_bestFirstTable_25, fX10_bestFirstTable_31, fX10_bestFirstTable_40, fX10_bestFirstTable_48, fX10_bestFirstTable_52, fX10_bestFirstTable_53, fX10_bestFirstTable_60, fX10_bestFirstTable_63, fX10_bestFirstTable_66, fX10_bestFirstTable_71, fX10_bestFirstTable_77, fX10_bestFirstTable_80, fX10_bestFirstTable_82, fX10_bestFirstTable_88, lt_f8, lt_f9, kI_0, kI_n, kI_1, lt_isO, Option.bind_some, n35, n9, n19, n51, n59, nI_add, ix2, ix8, ix22, ix5, ↓reduceIte, lt_isO, lt_eq, show ¬ l < p by omega, h1, n0_0]
set_option maxRecDepth 100000 in
set_option maxHeartbeats 400000 in
theorem c_best (b1 : tlA (T 0)) (hP : S (T 0) 3 = nI P) (hP5 : P ≤ 5) (hN : S (T 0) 4 = nI N) (hN8 : N ≤ 8) (hs : ∀ k, k < P → m1 < sh (S (T 0)) (S 139) k) (hw : ∀ k, k < N → sm (S 139 (14 + k)) 20) {l f : Nat} (hl32 : l < 32) (hfl : f ≤ l) (hl : ((nI 1 <<< (nI P &&& 31)) - nI 1) &&& (S 139 10 ^^^ m1) = nI l) (hf : nI l &&& -nI l = nI f) : gX10_bestFirstTable 0 (hp S J T) = some (o0 (tB (S (T 0)) (S 139) P N l f), hp S J T) := by
  have e := for_loop lX10_bestFirstTable_25 fX10_bestFirstTable_25 (fun _ => rfl) (fun K k b => K 0 (nI l) (nI l &&& -nI l) (o0 b) (oW (tW (S (T 0)) (S 139) P N l) m1 b) (nI k) (hp S J T)) (fun _ _ => True) (l + 1) (ams (fun b p => decide (tW (S (T 0)) (S 139) P N l b < tW (S (T 0)) (S 139) P N l p)) (my l)) (fun b => some (o0 b, hp S J T)) (fun K k b hk _ => s_best b1 hP hP5 hN hN8 hs hw hl32 hk hl K) (fun _ _ _ _ => trivial) (fun K b _ => ?_) (l + 1 - f) f FU none (by omega) (FU_lt (by omega)) trivial
  · refine Eq.trans ?_ e
    simp (disch := omega) only [gX10_bestFirstTable, fX10_bestFirstTable_0, fX10_bestFirstTable_8, fX10_bestFirstTable_11, lt_f8, lt_f9, pl_isO plA_139, c_living plA_139 b1, hP, hl, hf, Option.bind_some, kI_0, kI_n, o0, oW]
  · simp (disch := omega) only [gX10_bestFirstTable, fX10_bestFirstTable_0, fX10_bestFirstTable_8, fX10_bestFirstTable_11, fX10_bestFirstTable_25, fX10_bestFirstTable_31, fX10_bestFirstTable_40, fX10_bestFirstTable_48, fX10_bestFirstTable_52, fX10_bestFirstTable_53, fX10_bestFirstTable_60, fX10_bestFirstTable_63, fX10_bestFirstTable_66, fX10_bestFirstTable_71, fX10_bestFirstTable_77, fX10_bestFirstTable_80, fX10_bestFirstTable_82, fX10_bestFirstTable_88, lt_f8, lt_f9, kI_0, kI_n, kI_1, lt_isO, Option.bind_some, n35, n9, n19, n51, n59, nI_add, ix2, ix8, ix22, ix5, ↓reduceIte, lt_eq, show l < l + 1 by omega]
end Q15

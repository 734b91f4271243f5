-- WHAT THE COOK AND THE GLUTTON TAKE; WHERE THEY REST
def ga (v a b : Int32) : Int32 := if a = 0 then (if b = 0 then nI 1 else m1) else (if b = 0 then nI 3 else -v)
def rsB (v : Int32) (c g : Bool) : Bool := !decide (ga v (bI c) (bI g) < ga v (bI !c) (bI g)) && !decide (ga v (bI g) (bI c) < ga v (bI !g) (bI c))
def rCt (v : Int32) : Int32 := nI (cond (rsB v false false) 1 0 + cond (rsB v false true) 1 0 + cond (rsB v true false) 1 0 + cond (rsB v true true) 1 0)
def rFs (v : Int32) : Int32 := cond (rsB v false false) (nI 0) (cond (rsB v false true) (nI 1) (cond (rsB v true false) (nI 10) (cond (rsB v true true) (nI 11) (oi none))))
set_option maxRecDepth 100000 in
set_option maxHeartbeats 400000 in
theorem stR_id {S : Mem} {b : Nat} : stR S b (S b) = S := by
  funext c
  by_cases h : c = b
  · rw [h, stR_eq]
  · rw [stR_ne h]
set_option maxRecDepth 100000 in
set_option maxHeartbeats 400000 in
theorem nI_z {m : Nat} (hm : m < 5000) : (nI m = 0) = (m = 0) := eq_eq (b := 0) hm (by omega)
set_option maxRecDepth 100000 in
set_option maxHeartbeats 400000 in
theorem n11 : (nI 1 = 1) = True := eq_true (by decide)
set_option maxRecDepth 100000 in
set_option maxHeartbeats 400000 in
theorem d20 : (nI 2 = 0) = False := eq_false (by decide)
set_option maxRecDepth 100000 in
set_option maxHeartbeats 400000 in
theorem d2_0 : (nI 0 - nI 0 / nI 2 * nI 2 = nI 1) = False := eq_false (by decide)
set_option maxRecDepth 100000 in
set_option maxHeartbeats 400000 in
theorem e2_0 : nI 0 / nI 2 * nI 10 + (nI 0 - nI 0 / nI 2 * nI 2) = nI 0 := by decide
set_option maxRecDepth 100000 in
set_option maxHeartbeats 400000 in
theorem f2_0 : nI 10 * (nI 0 / nI 2) + (nI 0 - nI 0 / nI 2 * nI 2) = nI 0 := by decide
set_option maxRecDepth 100000 in
set_option maxHeartbeats 400000 in
theorem d2_1 : (nI 1 - nI 1 / nI 2 * nI 2 = nI 1) = True := eq_true (by decide)
set_option maxRecDepth 100000 in
set_option maxHeartbeats 400000 in
theorem e2_1 : nI 1 / nI 2 * nI 10 + (nI 1 - nI 1 / nI 2 * nI 2) = nI 1 := by decide
set_option maxRecDepth 100000 in
set_option maxHeartbeats 400000 in
theorem f2_1 : nI 10 * (nI 1 / nI 2) + (nI 1 - nI 1 / nI 2 * nI 2) = nI 1 := by decide
set_option maxRecDepth 100000 in
set_option maxHeartbeats 400000 in
theorem d2_2 : (nI 2 - nI 2 / nI 2 * nI 2 = nI 1) = False := eq_false (by decide)
set_option maxRecDepth 100000 in
set_option maxHeartbeats 400000 in
theorem e2_2 : nI 2 / nI 2 * nI 10 + (nI 2 - nI 2 / nI 2 * nI 2) = nI 10 := by decide
set_option maxRecDepth 100000 in
set_option maxHeartbeats 400000 in
theorem f2_2 : nI 10 * (nI 2 / nI 2) + (nI 2 - nI 2 / nI 2 * nI 2) = nI 10 := by decide
set_option maxRecDepth 100000 in
set_option maxHeartbeats 400000 in
theorem d2_3 : (nI 3 - nI 3 / nI 2 * nI 2 = nI 1) = True := eq_true (by decide)
set_option maxRecDepth 100000 in
set_option maxHeartbeats 400000 in
theorem e2_3 : nI 3 / nI 2 * nI 10 + (nI 3 - nI 3 / nI 2 * nI 2) = nI 11 := by decide
set_option maxRecDepth 100000 in
set_option maxHeartbeats 400000 in
theorem f2_3 : nI 10 * (nI 3 / nI 2) + (nI 3 - nI 3 / nI 2 * nI 2) = nI 11 := by decide
section Q11
variable {S S1 : Mem} {J : MeJ} {T : Nat → Nat} {t a w P N F U E : Nat} {ht : Bool}
set_option maxRecDepth 100000 in
set_option maxHeartbeats 400000 in
theorem c_gain (v a b : Int32) (h : aH) : gX10_gain v a b h = some (ga v a b, h) := by
  unfold ga
  by_cases h1 : a = 0 <;> by_cases h2 : b = 0 <;> simp only [gX10_gain, fX10_gain_0, fX10_gain_4, fX10_gain_8, fX10_gain_13, fX10_gain_14, fX10_gain_15, fX10_gain_19, fX10_gain_23, fX10_gain_24, kI_3, kI_n, kI_1, Option.bind_some, n35, n9, n19, n51, n59, nI_add, ix2, ix8, ix22, ix5, ↓reduceIte, h1, h2]
set_option maxRecDepth 100000 in
set_option maxHeartbeats 400000 in
theorem c_takesOf (v a b : Int32) (h : aH) : gX11_takesOf v a b h = some (ga v a b, h) := by
  unfold ga
  by_cases h1 : a = 0 <;> by_cases h2 : b = 0 <;> simp only [gX11_takesOf, fX11_takesOf_0, fX11_takesOf_4, fX11_takesOf_8, fX11_takesOf_13, fX11_takesOf_17, fX11_takesOf_21, fX11_takesOf_25, fX11_takesOf_26, kI_3, kI_n, kI_1, Option.bind_some, n35, n9, n19, n51, n59, nI_add, ix2, ix8, ix22, ix5, ↓reduceIte, h1, h2]
set_option maxRecDepth 100000 in
set_option maxHeartbeats 400000 in
theorem c_isRest (v : Int32) (c g : Bool) (h : aH) : gX10_isRest v (bI c) (bI g) h = some (bI (rsB v c g), h) := by
  have e : nI 0 = 0 ∨ nI 0 = 1 := Or.inl (by decide)
  have e' : nI 1 = 0 ∨ nI 1 = 1 := Or.inr (by decide)
  have c1 : (if bI c = 0 then nI 1 else nI 0) = bI (!c) := by cases c <;> rfl
  unfold rsB
  by_cases h1 : ga v (bI c) (bI g) < ga v (bI !c) (bI g)
  · rw [decide_eq_true h1]
    cases c <;> simp only [Bool.not_true, Bool.not_false, bI_t, bI_f] at h1 ⊢ <;> simp only [gX10_isRest, fX10_isRest_0, fX10_isRest_3, fX10_isRest_6, fX10_isRest_11, fX10_isRest_15, fX10_isRest_16, fX10_isRest_17, fX10_isRest_20, fX10_isRest_23, fX10_isRest_26, fX10_isRest_29, fX10_isRest_34, fX10_isRest_38, fX10_isRest_39, fX10_isRest_40, fX10_isRest_43, fX10_isRest_46, fX10_isRest_50, fX10_isRest_51, kI_1, kI_0, Option.bind_some, n35, n9, n19, n51, n59, nI_add, ix2, ix8, ix22, ix5, ↓reduceIte, c_gain, bI_t, bI_f, n0_0, n1_0, h1, n11, true_or, false_or, or_true, if_true, Bool.not_true, Bool.false_and]
  · rw [decide_eq_false h1]
    by_cases h2 : ga v (bI g) (bI c) < ga v (bI !g) (bI c)
    · rw [decide_eq_true h2]
      cases c <;> cases g <;> simp only [Bool.not_true, Bool.not_false, bI_t, bI_f] at h1 h2 ⊢ <;> first | exact absurd h2 h1 | simp only [gX10_isRest, fX10_isRest_0, fX10_isRest_3, fX10_isRest_6, fX10_isRest_11, fX10_isRest_15, fX10_isRest_16, fX10_isRest_17, fX10_isRest_20, fX10_isRest_23, fX10_isRest_26, fX10_isRest_29, fX10_isRest_34, fX10_isRest_38, fX10_isRest_39, fX10_isRest_40, fX10_isRest_43, fX10_isRest_46, fX10_isRest_50, fX10_isRest_51, kI_1, kI_0, Option.bind_some, n35, n9, n19, n51, n59, nI_add, ix2, ix8, ix22, ix5, ↓reduceIte, c_gain, bI_t, bI_f, n0_0, n1_0, h1, h2, n11, true_or, false_or, or_true, if_true, Bool.not_true, Bool.not_false, Bool.and_false, Bool.true_and]
    · rw [decide_eq_false h2]
      cases c <;> cases g <;> simp only [Bool.not_true, Bool.not_false, bI_t, bI_f] at h1 h2 ⊢ <;> first | exact absurd h2 h1 | simp only [gX10_isRest, fX10_isRest_0, fX10_isRest_3, fX10_isRest_6, fX10_isRest_11, fX10_isRest_15, fX10_isRest_16, fX10_isRest_17, fX10_isRest_20, fX10_isRest_23, fX10_isRest_26, fX10_isRest_29, fX10_isRest_34, fX10_isRest_38, fX10_isRest_39, fX10_isRest_40, fX10_isRest_43, fX10_isRest_46, fX10_isRest_50, fX10_isRest_51, kI_1, kI_0, Option.bind_some, n35, n9, n19, n51, n59, nI_add, ix2, ix8, ix22, ix5, ↓reduceIte, c_gain, bI_t, bI_f, n0_0, n1_0, h1, h2, n11, true_or, false_or, or_true, if_true, Bool.not_true, Bool.not_false, Bool.and_false, Bool.true_and]
set_option maxRecDepth 100000 in
set_option maxHeartbeats 400000 in
theorem ir0 (v : Int32) (h : aH) : gX10_isRest v (nI 0) (nI 0) h = some (bI (rsB v false false), h) := c_isRest v false false h
set_option maxRecDepth 100000 in
set_option maxHeartbeats 400000 in
theorem lr0 (n : Nat) (v : Int32) (m : Nat) (hm : m < 10) (h : aH) : lX10_rests_21 (n + 1) v (nI m) (nI 0) h = lX10_rests_21 n v (nI (m + cond (rsB v false false) 1 0)) (nI 1) h := by
  conv => lhs; unfold lX10_rests_21
  cases hr : rsB v false false <;> simp (disch := omega) only [gX10_rests, fX10_rests_0, fX10_rests_2, fX10_rests_5, fX10_rests_9, fX10_rests_12, fX10_rests_15, fX10_rests_17, fX10_rests_21, fX10_rests_26, fX10_rests_33, fX10_rests_37, fX10_rests_38, fX10_rests_45, fX10_rests_49, fX10_rests_50, fX10_rests_53, fX10_rests_56, fX10_rests_60, fX10_rests_61, fX10_rests_69, lt_isO, kI_0, kB_9, kI_n, kI_4, kI_2, kI_1, Option.bind_some, n35, n9, n19, n51, n59, nI_add, ix2, ix8, ix22, ix5, ↓reduceIte, lt_eq, ir0, hr, bI_t, bI_f, n0_0, n1_0, d20, d2_0, cond_true, cond_false, Nat.reduceLT, Nat.reduceAdd]
set_option maxRecDepth 100000 in
set_option maxHeartbeats 400000 in
theorem ls0 (n : Nat) (v : Int32) (h : aH) : lX10_rest_19 (n + 1) v (nI 0) h = cond (rsB v false false) (some (nI 0, h)) (lX10_rest_19 n v (nI 1) h) := by
  conv => lhs; unfold lX10_rest_19
  cases hr : rsB v false false <;> simp (disch := omega) only [gX10_rest, fX10_rest_0, fX10_rest_2, fX10_rest_5, fX10_rest_9, fX10_rest_12, fX10_rest_15, fX10_rest_17, fX10_rest_19, fX10_rest_24, fX10_rest_30, fX10_rest_34, fX10_rest_35, fX10_rest_42, fX10_rest_46, fX10_rest_47, fX10_rest_50, fX10_rest_53, fX10_rest_64, fX10_rest_70, lt_isO, kI_0, kB_9, kI_n, kI_4, kI_2, kI_1, kB_10, kB_o, Option.bind_some, n35, n9, n19, n51, n59, nI_add, ix2, ix8, ix22, ix5, ↓reduceIte, lt_eq, ir0, hr, bI_t, bI_f, n0_0, n1_0, d20, d2_0, e2_0, cond_true, cond_false, Nat.reduceLT, Nat.reduceAdd]
set_option maxRecDepth 100000 in
set_option maxHeartbeats 400000 in
theorem lm0 {S : Mem} (n : Nat) (v : Int32) (m : Nat) (hm : m < 10) : lX11_seekRests_10 (n + 1) 167 v (nI m) (nI 0) (hp S J T) = lX11_seekRests_10 n 167 v (nI (m + cond (rsB v false false) 1 0)) (nI 1) (hp (stR S 167 (cond (rsB v false false && decide (m = 0)) (up (S 167) 40 (nI 0)) (S 167))) J T) := by
  conv => lhs; unfold lX11_seekRests_10
  have hz : (nI m = 0) = (m = 0) := nI_z (by omega)
  have hS : stR S 167 (S 167) = S := stR_id
  by_cases h1 : ga v (nI 0) (nI 0) < ga v (nI 1) (nI 0)
  · have hr : rsB v false false = false := by
      have h1' : ga v (bI false) (bI false) < ga v (bI !false) (bI false) := h1
      unfold rsB; rw [decide_eq_true h1']; rfl
    rw [hr]
    simp (disch := omega) only [gX11_seekRests, fX11_seekRests_0, fX11_seekRests_10, fX11_seekRests_15, fX11_seekRests_20, fX11_seekRests_24, fX11_seekRests_25, fX11_seekRests_34, fX11_seekRests_38, fX11_seekRests_39, fX11_seekRests_47, fX11_seekRests_51, fX11_seekRests_52, fX11_seekRests_54, fX11_seekRests_57, fX11_seekRests_62, fX11_seekRests_65, fX11_seekRests_68, fX11_seekRests_74, fX11_seekRests_78, fX11_seekRests_79, fX11_seekRests_81, fX11_seekRests_84, fX11_seekRests_89, fX11_seekRests_92, fX11_seekRests_95, fX11_seekRests_98, fX11_seekRests_102, fX11_seekRests_116, fX11_seekRests_119, fX11_seekRests_125, kI_0, kB_o, mo_p40, kI_4, kI_1, kI_2, kB_10, Option.bind_some, n35, n9, n19, n51, n59, nI_add, ix2, ix8, ix22, ix5, ↓reduceIte, lt_eq, c_takesOf, h1, Bool.false_and, n0_0, n1_0, d20, d2_0, cond_true, cond_false, Nat.reduceLT, Nat.reduceAdd, Nat.add_zero, hS]
  · by_cases h2 : ga v (nI 0) (nI 0) < ga v (nI 1) (nI 0)
    · have hr : rsB v false false = false := by
        have h2' : ga v (bI false) (bI false) < ga v (bI !false) (bI false) := h2
        unfold rsB; rw [decide_eq_true h2']; exact Bool.and_false _
      rw [hr]
      first | exact absurd h2 h1 | simp (disch := omega) only [gX11_seekRests, fX11_seekRests_0, fX11_seekRests_10, fX11_seekRests_15, fX11_seekRests_20, fX11_seekRests_24, fX11_seekRests_25, fX11_seekRests_34, fX11_seekRests_38, fX11_seekRests_39, fX11_seekRests_47, fX11_seekRests_51, fX11_seekRests_52, fX11_seekRests_54, fX11_seekRests_57, fX11_seekRests_62, fX11_seekRests_65, fX11_seekRests_68, fX11_seekRests_74, fX11_seekRests_78, fX11_seekRests_79, fX11_seekRests_81, fX11_seekRests_84, fX11_seekRests_89, fX11_seekRests_92, fX11_seekRests_95, fX11_seekRests_98, fX11_seekRests_102, fX11_seekRests_116, fX11_seekRests_119, fX11_seekRests_125, kI_0, kB_o, mo_p40, kI_4, kI_1, kI_2, kB_10, Option.bind_some, n35, n9, n19, n51, n59, nI_add, ix2, ix8, ix22, ix5, ↓reduceIte, lt_eq, c_takesOf, h1, h2, Bool.false_and, n0_0, n1_0, d20, d2_0, cond_true, cond_false, Nat.reduceLT, Nat.reduceAdd, Nat.add_zero, hS]
    · have hr : rsB v false false = true := by
        have h1' : ¬ ga v (bI false) (bI false) < ga v (bI !false) (bI false) := h1
        have h2' : ¬ ga v (bI false) (bI false) < ga v (bI !false) (bI false) := h2
        unfold rsB; rw [Bool.and_eq_true]; exact ⟨by rw [decide_eq_false h1']; rfl, by rw [decide_eq_false h2']; rfl⟩
      rw [hr]
      by_cases h3 : m = 0
      · subst h3
        simp (disch := omega) only [gX11_seekRests, fX11_seekRests_0, fX11_seekRests_10, fX11_seekRests_15, fX11_seekRests_20, fX11_seekRests_24, fX11_seekRests_25, fX11_seekRests_34, fX11_seekRests_38, fX11_seekRests_39, fX11_seekRests_47, fX11_seekRests_51, fX11_seekRests_52, fX11_seekRests_54, fX11_seekRests_57, fX11_seekRests_62, fX11_seekRests_65, fX11_seekRests_68, fX11_seekRests_74, fX11_seekRests_78, fX11_seekRests_79, fX11_seekRests_81, fX11_seekRests_84, fX11_seekRests_89, fX11_seekRests_92, fX11_seekRests_95, fX11_seekRests_98, fX11_seekRests_102, fX11_seekRests_116, fX11_seekRests_119, fX11_seekRests_125, kI_0, kB_o, mo_p40, kI_4, kI_1, kI_2, kB_10, Option.bind_some, n35, n9, n19, n51, n59, nI_add, ix2, ix8, ix22, ix5, ↓reduceIte, lt_eq, c_takesOf, h1, h2, decide_true, Bool.and_self, n0_0, n1_0, d20, d2_0, f2_0, stS_R, cond_true, cond_false, Nat.reduceLT, Nat.reduceAdd, Nat.add_zero]
      · rw [decide_eq_false h3]
        simp (disch := omega) only [gX11_seekRests, fX11_seekRests_0, fX11_seekRests_10, fX11_seekRests_15, fX11_seekRests_20, fX11_seekRests_24, fX11_seekRests_25, fX11_seekRests_34, fX11_seekRests_38, fX11_seekRests_39, fX11_seekRests_47, fX11_seekRests_51, fX11_seekRests_52, fX11_seekRests_54, fX11_seekRests_57, fX11_seekRests_62, fX11_seekRests_65, fX11_seekRests_68, fX11_seekRests_74, fX11_seekRests_78, fX11_seekRests_79, fX11_seekRests_81, fX11_seekRests_84, fX11_seekRests_89, fX11_seekRests_92, fX11_seekRests_95, fX11_seekRests_98, fX11_seekRests_102, fX11_seekRests_116, fX11_seekRests_119, fX11_seekRests_125, kI_0, kB_o, mo_p40, kI_4, kI_1, kI_2, kB_10, Option.bind_some, n35, n9, n19, n51, n59, nI_add, ix2, ix8, ix22, ix5, ↓reduceIte, lt_eq, c_takesOf, h1, h2, Bool.and_false, n0_0, n1_0, d20, d2_0, f2_0, hz, h3, cond_true, cond_false, Nat.reduceLT, Nat.reduceAdd, Nat.add_zero, hS]
set_option maxRecDepth 100000 in
set_option maxHeartbeats 400000 in
theorem ir1 (v : Int32) (h : aH) : gX10_isRest v (nI 0) (nI 1) h = some (bI (rsB v false true), h) := c_isRest v false true h
set_option maxRecDepth 100000 in
set_option maxHeartbeats 400000 in
theorem lr1 (n : Nat) (v : Int32) (m : Nat) (hm : m < 10) (h : aH) : lX10_rests_21 (n + 1) v (nI m) (nI 1) h = lX10_rests_21 n v (nI (m + cond (rsB v false true) 1 0)) (nI 2) h := by
  conv => lhs; unfold lX10_rests_21
  cases hr : rsB v false true <;> simp (disch := omega) only [gX10_rests, fX10_rests_0, fX10_rests_2, fX10_rests_5, fX10_rests_9, fX10_rests_12, fX10_rests_15, fX10_rests_17, fX10_rests_21, fX10_rests_26, fX10_rests_33, fX10_rests_37, fX10_rests_38, fX10_rests_45, fX10_rests_49, fX10_rests_50, fX10_rests_53, fX10_rests_56, fX10_rests_60, fX10_rests_61, fX10_rests_69, lt_isO, kI_0, kB_9, kI_n, kI_4, kI_2, kI_1, Option.bind_some, n35, n9, n19, n51, n59, nI_add, ix2, ix8, ix22, ix5, ↓reduceIte, lt_eq, ir1, hr, bI_t, bI_f, n0_0, n1_0, d20, d2_1, cond_true, cond_false, Nat.reduceLT, Nat.reduceAdd]
set_option maxRecDepth 100000 in
set_option maxHeartbeats 400000 in
theorem ls1 (n : Nat) (v : Int32) (h : aH) : lX10_rest_19 (n + 1) v (nI 1) h = cond (rsB v false true) (some (nI 1, h)) (lX10_rest_19 n v (nI 2) h) := by
  conv => lhs; unfold lX10_rest_19
  cases hr : rsB v false true <;> simp (disch := omega) only [gX10_rest, fX10_rest_0, fX10_rest_2, fX10_rest_5, fX10_rest_9, fX10_rest_12, fX10_rest_15, fX10_rest_17, fX10_rest_19, fX10_rest_24, fX10_rest_30, fX10_rest_34, fX10_rest_35, fX10_rest_42, fX10_rest_46, fX10_rest_47, fX10_rest_50, fX10_rest_53, fX10_rest_64, fX10_rest_70, lt_isO, kI_0, kB_9, kI_n, kI_4, kI_2, kI_1, kB_10, kB_o, Option.bind_some, n35, n9, n19, n51, n59, nI_add, ix2, ix8, ix22, ix5, ↓reduceIte, lt_eq, ir1, hr, bI_t, bI_f, n0_0, n1_0, d20, d2_1, e2_1, cond_true, cond_false, Nat.reduceLT, Nat.reduceAdd]
set_option maxRecDepth 100000 in
set_option maxHeartbeats 400000 in
theorem lm1 {S : Mem} (n : Nat) (v : Int32) (m : Nat) (hm : m < 10) : lX11_seekRests_10 (n + 1) 167 v (nI m) (nI 1) (hp S J T) = lX11_seekRests_10 n 167 v (nI (m + cond (rsB v false true) 1 0)) (nI 2) (hp (stR S 167 (cond (rsB v false true && decide (m = 0)) (up (S 167) 40 (nI 1)) (S 167))) J T) := by
  conv => lhs; unfold lX11_seekRests_10
  have hz : (nI m = 0) = (m = 0) := nI_z (by omega)
  have hS : stR S 167 (S 167) = S := stR_id
  by_cases h1 : ga v (nI 0) (nI 1) < ga v (nI 1) (nI 1)
  · have hr : rsB v false true = false := by
      have h1' : ga v (bI false) (bI true) < ga v (bI !false) (bI true) := h1
      unfold rsB; rw [decide_eq_true h1']; rfl
    rw [hr]
    simp (disch := omega) only [gX11_seekRests, fX11_seekRests_0, fX11_seekRests_10, fX11_seekRests_15, fX11_seekRests_20, fX11_seekRests_24, fX11_seekRests_25, fX11_seekRests_34, fX11_seekRests_38, fX11_seekRests_39, fX11_seekRests_47, fX11_seekRests_51, fX11_seekRests_52, fX11_seekRests_54, fX11_seekRests_57, fX11_seekRests_62, fX11_seekRests_65, fX11_seekRests_68, fX11_seekRests_74, fX11_seekRests_78, fX11_seekRests_79, fX11_seekRests_81, fX11_seekRests_84, fX11_seekRests_89, fX11_seekRests_92, fX11_seekRests_95, fX11_seekRests_98, fX11_seekRests_102, fX11_seekRests_116, fX11_seekRests_119, fX11_seekRests_125, kI_0, kB_o, mo_p40, kI_4, kI_1, kI_2, kB_10, Option.bind_some, n35, n9, n19, n51, n59, nI_add, ix2, ix8, ix22, ix5, ↓reduceIte, lt_eq, c_takesOf, h1, Bool.false_and, n0_0, n1_0, d20, d2_1, cond_true, cond_false, Nat.reduceLT, Nat.reduceAdd, Nat.add_zero, hS]
  · by_cases h2 : ga v (nI 1) (nI 0) < ga v (nI 0) (nI 0)
    · have hr : rsB v false true = false := by
        have h2' : ga v (bI true) (bI false) < ga v (bI !true) (bI false) := h2
        unfold rsB; rw [decide_eq_true h2']; exact Bool.and_false _
      rw [hr]
      first | exact absurd h2 h1 | simp (disch := omega) only [gX11_seekRests, fX11_seekRests_0, fX11_seekRests_10, fX11_seekRests_15, fX11_seekRests_20, fX11_seekRests_24, fX11_seekRests_25, fX11_seekRests_34, fX11_seekRests_38, fX11_seekRests_39, fX11_seekRests_47, fX11_seekRests_51, fX11_seekRests_52, fX11_seekRests_54, fX11_seekRests_57, fX11_seekRests_62, fX11_seekRests_65, fX11_seekRests_68, fX11_seekRests_74, fX11_seekRests_78, fX11_seekRests_79, fX11_seekRests_81, fX11_seekRests_84, fX11_seekRests_89, fX11_seekRests_92, fX11_seekRests_95, fX11_seekRests_98, fX11_seekRests_102, fX11_seekRests_116, fX11_seekRests_119, fX11_seekRests_125, kI_0, kB_o, mo_p40, kI_4, kI_1, kI_2, kB_10, Option.bind_some, n35, n9, n19, n51, n59, nI_add, ix2, ix8, ix22, ix5, ↓reduceIte, lt_eq, c_takesOf, h1, h2, Bool.false_and, n0_0, n1_0, d20, d2_1, cond_true, cond_false, Nat.reduceLT, Nat.reduceAdd, Nat.add_zero, hS]
    · have hr : rsB v false true = true := by
        have h1' : ¬ ga v (bI false) (bI true) < ga v (bI !false) (bI true) := h1
        have h2' : ¬ ga v (bI true) (bI false) < ga v (bI !true) (bI false) := h2
        unfold rsB; rw [Bool.and_eq_true]; exact ⟨by rw [decide_eq_false h1']; rfl, by rw [decide_eq_false h2']; rfl⟩
      rw [hr]
      by_cases h3 : m = 0
      · subst h3
        simp (disch := omega) only [gX11_seekRests, fX11_seekRests_0, fX11_seekRests_10, fX11_seekRests_15, fX11_seekRests_20, fX11_seekRests_24, fX11_seekRests_25, fX11_seekRests_34, fX11_seekRests_38, fX11_seekRests_39, fX11_seekRests_47, fX11_seekRests_51, fX11_seekRests_52, fX11_seekRests_54, fX11_seekRests_57, fX11_seekRests_62, fX11_seekRests_65, fX11_seekRests_68, fX11_seekRests_74, fX11_seekRests_78, fX11_seekRests_79, fX11_seekRests_81, fX11_seekRests_84, fX11_seekRests_89, fX11_seekRests_92, fX11_seekRests_95, fX11_seekRests_98, fX11_seekRests_102, fX11_seekRests_116, fX11_seekRests_119, fX11_seekRests_125, kI_0, kB_o, mo_p40, kI_4, kI_1, kI_2, kB_10, Option.bind_some, n35, n9, n19, n51, n59, nI_add, ix2, ix8, ix22, ix5, ↓reduceIte, lt_eq, c_takesOf, h1, h2, decide_true, Bool.and_self, n0_0, n1_0, d20, d2_1, f2_1, stS_R, cond_true, cond_false, Nat.reduceLT, Nat.reduceAdd, Nat.add_zero]
      · rw [decide_eq_false h3]
        simp (disch := omega) only [gX11_seekRests, fX11_seekRests_0, fX11_seekRests_10, fX11_seekRests_15, fX11_seekRests_20, fX11_seekRests_24, fX11_seekRests_25, fX11_seekRests_34, fX11_seekRests_38, fX11_seekRests_39, fX11_seekRests_47, fX11_seekRests_51, fX11_seekRests_52, fX11_seekRests_54, fX11_seekRests_57, fX11_seekRests_62, fX11_seekRests_65, fX11_seekRests_68, fX11_seekRests_74, fX11_seekRests_78, fX11_seekRests_79, fX11_seekRests_81, fX11_seekRests_84, fX11_seekRests_89, fX11_seekRests_92, fX11_seekRests_95, fX11_seekRests_98, fX11_seekRests_102, fX11_seekRests_116, fX11_seekRests_119, fX11_seekRests_125, kI_0, kB_o, mo_p40, kI_4, kI_1, kI_2, kB_10, Option.bind_some, n35, n9, n19, n51, n59, nI_add, ix2, ix8, ix22, ix5, ↓reduceIte, lt_eq, c_takesOf, h1, h2, Bool.and_false, n0_0, n1_0, d20, d2_1, f2_1, hz, h3, cond_true, cond_false, Nat.reduceLT, Nat.reduceAdd, Nat.add_zero, hS]
set_option maxRecDepth 100000 in
set_option maxHeartbeats 400000 in
theorem ir2 (v : Int32) (h : aH) : gX10_isRest v (nI 1) (nI 0) h = some (bI (rsB v true false), h) := c_isRest v true false h
set_option maxRecDepth 100000 in
set_option maxHeartbeats 400000 in
theorem lr2 (n : Nat) (v : Int32) (m : Nat) (hm : m < 10) (h : aH) : lX10_rests_21 (n + 1) v (nI m) (nI 2) h = lX10_rests_21 n v (nI (m + cond (rsB v true false) 1 0)) (nI 3) h := by
  conv => lhs; unfold lX10_rests_21
  cases hr : rsB v true false <;> simp (disch := omega) only [gX10_rests, fX10_rests_0, fX10_rests_2, fX10_rests_5, fX10_rests_9, fX10_rests_12, fX10_rests_15, fX10_rests_17, fX10_rests_21, fX10_rests_26, fX10_rests_33, fX10_rests_37, fX10_rests_38, fX10_rests_45, fX10_rests_49, fX10_rests_50, fX10_rests_53, fX10_rests_56, fX10_rests_60, fX10_rests_61, fX10_rests_69, lt_isO, kI_0, kB_9, kI_n, kI_4, kI_2, kI_1, Option.bind_some, n35, n9, n19, n51, n59, nI_add, ix2, ix8, ix22, ix5, ↓reduceIte, lt_eq, ir2, hr, bI_t, bI_f, n0_0, n1_0, d20, d2_2, cond_true, cond_false, Nat.reduceLT, Nat.reduceAdd]
set_option maxRecDepth 100000 in
set_option maxHeartbeats 400000 in
theorem ls2 (n : Nat) (v : Int32) (h : aH) : lX10_rest_19 (n + 1) v (nI 2) h = cond (rsB v true false) (some (nI 10, h)) (lX10_rest_19 n v (nI 3) h) := by
  conv => lhs; unfold lX10_rest_19
  cases hr : rsB v true false <;> simp (disch := omega) only [gX10_rest, fX10_rest_0, fX10_rest_2, fX10_rest_5, fX10_rest_9, fX10_rest_12, fX10_rest_15, fX10_rest_17, fX10_rest_19, fX10_rest_24, fX10_rest_30, fX10_rest_34, fX10_rest_35, fX10_rest_42, fX10_rest_46, fX10_rest_47, fX10_rest_50, fX10_rest_53, fX10_rest_64, fX10_rest_70, lt_isO, kI_0, kB_9, kI_n, kI_4, kI_2, kI_1, kB_10, kB_o, Option.bind_some, n35, n9, n19, n51, n59, nI_add, ix2, ix8, ix22, ix5, ↓reduceIte, lt_eq, ir2, hr, bI_t, bI_f, n0_0, n1_0, d20, d2_2, e2_2, cond_true, cond_false, Nat.reduceLT, Nat.reduceAdd]
set_option maxRecDepth 100000 in
set_option maxHeartbeats 400000 in
theorem lm2 {S : Mem} (n : Nat) (v : Int32) (m : Nat) (hm : m < 10) : lX11_seekRests_10 (n + 1) 167 v (nI m) (nI 2) (hp S J T) = lX11_seekRests_10 n 167 v (nI (m + cond (rsB v true false) 1 0)) (nI 3) (hp (stR S 167 (cond (rsB v true false && decide (m = 0)) (up (S 167) 40 (nI 10)) (S 167))) J T) := by
  conv => lhs; unfold lX11_seekRests_10
  have hz : (nI m = 0) = (m = 0) := nI_z (by omega)
  have hS : stR S 167 (S 167) = S := stR_id
  by_cases h1 : ga v (nI 1) (nI 0) < ga v (nI 0) (nI 0)
  · have hr : rsB v true false = false := by
      have h1' : ga v (bI true) (bI false) < ga v (bI !true) (bI false) := h1
      unfold rsB; rw [decide_eq_true h1']; rfl
    rw [hr]
    simp (disch := omega) only [gX11_seekRests, fX11_seekRests_0, fX11_seekRests_10, fX11_seekRests_15, fX11_seekRests_20, fX11_seekRests_24, fX11_seekRests_25, fX11_seekRests_34, fX11_seekRests_38, fX11_seekRests_39, fX11_seekRests_47, fX11_seekRests_51, fX11_seekRests_52, fX11_seekRests_54, fX11_seekRests_57, fX11_seekRests_62, fX11_seekRests_65, fX11_seekRests_68, fX11_seekRests_74, fX11_seekRests_78, fX11_seekRests_79, fX11_seekRests_81, fX11_seekRests_84, fX11_seekRests_89, fX11_seekRests_92, fX11_seekRests_95, fX11_seekRests_98, fX11_seekRests_102, fX11_seekRests_116, fX11_seekRests_119, fX11_seekRests_125, kI_0, kB_o, mo_p40, kI_4, kI_1, kI_2, kB_10, Option.bind_some, n35, n9, n19, n51, n59, nI_add, ix2, ix8, ix22, ix5, ↓reduceIte, lt_eq, c_takesOf, h1, Bool.false_and, n0_0, n1_0, d20, d2_2, cond_true, cond_false, Nat.reduceLT, Nat.reduceAdd, Nat.add_zero, hS]
  · by_cases h2 : ga v (nI 0) (nI 1) < ga v (nI 1) (nI 1)
    · have hr : rsB v true false = false := by
        have h2' : ga v (bI false) (bI true) < ga v (bI !false) (bI true) := h2
        unfold rsB; rw [decide_eq_true h2']; exact Bool.and_false _
      rw [hr]
      first | exact absurd h2 h1 | simp (disch := omega) only [gX11_seekRests, fX11_seekRests_0, fX11_seekRests_10, fX11_seekRests_15, fX11_seekRests_20, fX11_seekRests_24, fX11_seekRests_25, fX11_seekRests_34, fX11_seekRests_38, fX11_seekRests_39, fX11_seekRests_47, fX11_seekRests_51, fX11_seekRests_52, fX11_seekRests_54, fX11_seekRests_57, fX11_seekRests_62, fX11_seekRests_65, fX11_seekRests_68, fX11_seekRests_74, fX11_seekRests_78, fX11_seekRests_79, fX11_seekRests_81, fX11_seekRests_84, fX11_seekRests_89, fX11_seekRests_92, fX11_seekRests_95, fX11_seekRests_98, fX11_seekRests_102, fX11_seekRests_116, fX11_seekRests_119, fX11_seekRests_125, kI_0, kB_o, mo_p40, kI_4, kI_1, kI_2, kB_10, Option.bind_some, n35, n9, n19, n51, n59, nI_add, ix2, ix8, ix22, ix5, ↓reduceIte, lt_eq, c_takesOf, h1, h2, Bool.false_and, n0_0, n1_0, d20, d2_2, cond_true, cond_false, Nat.reduceLT, Nat.reduceAdd, Nat.add_zero, hS]
    · have hr : rsB v true false = true := by
        have h1' : ¬ ga v (bI true) (bI false) < ga v (bI !true) (bI false) := h1
        have h2' : ¬ ga v (bI false) (bI true) < ga v (bI !false) (bI true) := h2
        unfold rsB; rw [Bool.and_eq_true]; exact ⟨by rw [decide_eq_false h1']; rfl, by rw [decide_eq_false h2']; rfl⟩
      rw [hr]
      by_cases h3 : m = 0
      · subst h3
        simp (disch := omega) only [gX11_seekRests, fX11_seekRests_0, fX11_seekRests_10, fX11_seekRests_15, fX11_seekRests_20, fX11_seekRests_24, fX11_seekRests_25, fX11_seekRests_34, fX11_seekRests_38, fX11_seekRests_39, fX11_seekRests_47, fX11_seekRests_51, fX11_seekRests_52, fX11_seekRests_54, fX11_seekRests_57, fX11_seekRests_62, fX11_seekRests_65, fX11_seekRests_68, fX11_seekRests_74, fX11_seekRests_78, fX11_seekRests_79, fX11_seekRests_81, fX11_seekRests_84, fX11_seekRests_89, fX11_seekRests_92, fX11_seekRests_95, fX11_seekRests_98, fX11_seekRests_102, fX11_seekRests_116, fX11_seekRests_119, fX11_seekRests_125, kI_0, kB_o, mo_p40, kI_4, kI_1, kI_2, kB_10, Option.bind_some, n35, n9, n19, n51, n59, nI_add, ix2, ix8, ix22, ix5, ↓reduceIte, lt_eq, c_takesOf, h1, h2, decide_true, Bool.and_self, n0_0, n1_0, d20, d2_2, f2_2, stS_R, cond_true, cond_false, Nat.reduceLT, Nat.reduceAdd, Nat.add_zero]
      · rw [decide_eq_false h3]
        simp (disch := omega) only [gX11_seekRests, fX11_seekRests_0, fX11_seekRests_10, fX11_seekRests_15, fX11_seekRests_20, fX11_seekRests_24, fX11_seekRests_25, fX11_seekRests_34, fX11_seekRests_38, fX11_seekRests_39, fX11_seekRests_47, fX11_seekRests_51, fX11_seekRests_52, fX11_seekRests_54, fX11_seekRests_57, fX11_seekRests_62, fX11_seekRests_65, fX11_seekRests_68, fX11_seekRests_74, fX11_seekRests_78, fX11_seekRests_79, fX11_seekRests_81, fX11_seekRests_84, fX11_seekRests_89, fX11_seekRests_92, fX11_seekRests_95, fX11_seekRests_98, fX11_seekRests_102, fX11_seekRests_116, fX11_seekRests_119, fX11_seekRests_125, kI_0, kB_o, mo_p40, kI_4, kI_1, kI_2, kB_10, Option.bind_some, n35, n9, n19, n51, n59, nI_add, ix2, ix8, ix22, ix5, ↓reduceIte, lt_eq, c_takesOf, h1, h2, Bool.and_false, n0_0, n1_0, d20, d2_2, f2_2, hz, h3, cond_true, cond_false, Nat.reduceLT, Nat.reduceAdd, Nat.add_zero, hS]
set_option maxRecDepth 100000 in
set_option maxHeartbeats 400000 in
theorem ir3 (v : Int32) (h : aH) : gX10_isRest v (nI 1) (nI 1) h = some (bI (rsB v true true), h) := c_isRest v true true h
set_option maxRecDepth 100000 in
set_option maxHeartbeats 400000 in
theorem lr3 (n : Nat) (v : Int32) (m : Nat) (hm : m < 10) (h : aH) : lX10_rests_21 (n + 1) v (nI m) (nI 3) h = lX10_rests_21 n v (nI (m + cond (rsB v true true) 1 0)) (nI 4) h := by
  conv => lhs; unfold lX10_rests_21
  cases hr : rsB v true true <;> simp (disch := omega) only [gX10_rests, fX10_rests_0, fX10_rests_2, fX10_rests_5, fX10_rests_9, fX10_rests_12, fX10_rests_15, fX10_rests_17, fX10_rests_21, fX10_rests_26, fX10_rests_33, fX10_rests_37, fX10_rests_38, fX10_rests_45, fX10_rests_49, fX10_rests_50, fX10_rests_53, fX10_rests_56, fX10_rests_60, fX10_rests_61, fX10_rests_69, lt_isO, kI_0, kB_9, kI_n, kI_4, kI_2, kI_1, Option.bind_some, n35, n9, n19, n51, n59, nI_add, ix2, ix8, ix22, ix5, ↓reduceIte, lt_eq, ir3, hr, bI_t, bI_f, n0_0, n1_0, d20, d2_3, cond_true, cond_false, Nat.reduceLT, Nat.reduceAdd]
set_option maxRecDepth 100000 in
set_option maxHeartbeats 400000 in
theorem ls3 (n : Nat) (v : Int32) (h : aH) : lX10_rest_19 (n + 1) v (nI 3) h = cond (rsB v true true) (some (nI 11, h)) (lX10_rest_19 n v (nI 4) h) := by
  conv => lhs; unfold lX10_rest_19
  cases hr : rsB v true true <;> simp (disch := omega) only [gX10_rest, fX10_rest_0, fX10_rest_2, fX10_rest_5, fX10_rest_9, fX10_rest_12, fX10_rest_15, fX10_rest_17, fX10_rest_19, fX10_rest_24, fX10_rest_30, fX10_rest_34, fX10_rest_35, fX10_rest_42, fX10_rest_46, fX10_rest_47, fX10_rest_50, fX10_rest_53, fX10_rest_64, fX10_rest_70, lt_isO, kI_0, kB_9, kI_n, kI_4, kI_2, kI_1, kB_10, kB_o, Option.bind_some, n35, n9, n19, n51, n59, nI_add, ix2, ix8, ix22, ix5, ↓reduceIte, lt_eq, ir3, hr, bI_t, bI_f, n0_0, n1_0, d20, d2_3, e2_3, cond_true, cond_false, Nat.reduceLT, Nat.reduceAdd]
set_option maxRecDepth 100000 in
set_option maxHeartbeats 400000 in
theorem lm3 {S : Mem} (n : Nat) (v : Int32) (m : Nat) (hm : m < 10) : lX11_seekRests_10 (n + 1) 167 v (nI m) (nI 3) (hp S J T) = lX11_seekRests_10 n 167 v (nI (m + cond (rsB v true true) 1 0)) (nI 4) (hp (stR S 167 (cond (rsB v true true && decide (m = 0)) (up (S 167) 40 (nI 11)) (S 167))) J T) := by
  conv => lhs; unfold lX11_seekRests_10
  have hz : (nI m = 0) = (m = 0) := nI_z (by omega)
  have hS : stR S 167 (S 167) = S := stR_id
  by_cases h1 : ga v (nI 1) (nI 1) < ga v (nI 0) (nI 1)
  · have hr : rsB v true true = false := by
      have h1' : ga v (bI true) (bI true) < ga v (bI !true) (bI true) := h1
      unfold rsB; rw [decide_eq_true h1']; rfl
    rw [hr]
    simp (disch := omega) only [gX11_seekRests, fX11_seekRests_0, fX11_seekRests_10, fX11_seekRests_15, fX11_seekRests_20, fX11_seekRests_24, fX11_seekRests_25, fX11_seekRests_34, fX11_seekRests_38, fX11_seekRests_39, fX11_seekRests_47, fX11_seekRests_51, fX11_seekRests_52, fX11_seekRests_54, fX11_seekRests_57, fX11_seekRests_62, fX11_seekRests_65, fX11_seekRests_68, fX11_seekRests_74, fX11_seekRests_78, fX11_seekRests_79, fX11_seekRests_81, fX11_seekRests_84, fX11_seekRests_89, fX11_seekRests_92, fX11_seekRests_95, fX11_seekRests_98, fX11_seekRests_102, fX11_seekRests_116, fX11_seekRests_119, fX11_seekRests_125, kI_0, kB_o, mo_p40, kI_4, kI_1, kI_2, kB_10, Option.bind_some, n35, n9, n19, n51, n59, nI_add, ix2, ix8, ix22, ix5, ↓reduceIte, lt_eq, c_takesOf, h1, Bool.false_and, n0_0, n1_0, d20, d2_3, cond_true, cond_false, Nat.reduceLT, Nat.reduceAdd, Nat.add_zero, hS]
  · by_cases h2 : ga v (nI 1) (nI 1) < ga v (nI 0) (nI 1)
    · have hr : rsB v true true = false := by
        have h2' : ga v (bI true) (bI true) < ga v (bI !true) (bI true) := h2
        unfold rsB; rw [decide_eq_true h2']; exact Bool.and_false _
      rw [hr]
      first | exact absurd h2 h1 | simp (disch := omega) only [gX11_seekRests, fX11_seekRests_0, fX11_seekRests_10, fX11_seekRests_15, fX11_seekRests_20, fX11_seekRests_24, fX11_seekRests_25, fX11_seekRests_34, fX11_seekRests_38, fX11_seekRests_39, fX11_seekRests_47, fX11_seekRests_51, fX11_seekRests_52, fX11_seekRests_54, fX11_seekRests_57, fX11_seekRests_62, fX11_seekRests_65, fX11_seekRests_68, fX11_seekRests_74, fX11_seekRests_78, fX11_seekRests_79, fX11_seekRests_81, fX11_seekRests_84, fX11_seekRests_89, fX11_seekRests_92, fX11_seekRests_95, fX11_seekRests_98, fX11_seekRests_102, fX11_seekRests_116, fX11_seekRests_119, fX11_seekRests_125, kI_0, kB_o, mo_p40, kI_4, kI_1, kI_2, kB_10, Option.bind_some, n35, n9, n19, n51, n59, nI_add, ix2, ix8, ix22, ix5, ↓reduceIte, lt_eq, c_takesOf, h1, h2, Bool.false_and, n0_0, n1_0, d20, d2_3, cond_true, cond_false, Nat.reduceLT, Nat.reduceAdd, Nat.add_zero, hS]
    · have hr : rsB v true true = true := by
        have h1' : ¬ ga v (bI true) (bI true) < ga v (bI !true) (bI true) := h1
        have h2' : ¬ ga v (bI true) (bI true) < ga v (bI !true) (bI true) := h2
        unfold rsB; rw [Bool.and_eq_true]; exact ⟨by rw [decide_eq_false h1']; rfl, by rw [decide_eq_false h2']; rfl⟩
      rw [hr]
      by_cases h3 : m = 0
      · subst h3
        simp (disch := omega) only [gX11_seekRests, fX11_seekRests_0, fX11_seekRests_10, fX11_seekRests_15, fX11_seekRests_20, fX11_seekRests_24, fX11_seekRests_25, fX11_seekRests_34, fX11_seekRests_38, fX11_seekRests_39, fX11_seekRests_47, fX11_seekRests_51, fX11_seekRests_52, fX11_seekRests_54, fX11_seekRests_57, fX11_seekRests_62, fX11_seekRests_65, fX11_seekRests_68, fX11_seekRests_74, fX11_seekRests_78, fX11_seekRests_79, fX11_seekRests_81, fX11_seekRests_84, fX11_seekRests_89, fX11_seekRests_92, fX11_seekRests_95, fX11_seekRests_98, fX11_seekRests_102, fX11_seekRests_116, fX11_seekRests_119, fX11_seekRests_125, kI_0, kB_o, mo_p40, kI_4, kI_1, kI_2, kB_10, Option.bind_some, n35, n9, n19, n51, n59, nI_add, ix2, ix8, ix22, ix5, ↓reduceIte, lt_eq, c_takesOf, h1, h2, decide_true, Bool.and_self, n0_0, n1_0, d20, d2_3, f2_3, stS_R, cond_true, cond_false, Nat.reduceLT, Nat.reduceAdd, Nat.add_zero]
      · rw [decide_eq_false h3]
        simp (disch := omega) only [gX11_seekRests, fX11_seekRests_0, fX11_seekRests_10, fX11_seekRests_15, fX11_seekRests_20, fX11_seekRests_24, fX11_seekRests_25, fX11_seekRests_34, fX11_seekRests_38, fX11_seekRests_39, fX11_seekRests_47, fX11_seekRests_51, fX11_seekRests_52, fX11_seekRests_54, fX11_seekRests_57, fX11_seekRests_62, fX11_seekRests_65, fX11_seekRests_68, fX11_seekRests_74, fX11_seekRests_78, fX11_seekRests_79, fX11_seekRests_81, fX11_seekRests_84, fX11_seekRests_89, fX11_seekRests_92, fX11_seekRests_95, fX11_seekRests_98, fX11_seekRests_102, fX11_seekRests_116, fX11_seekRests_119, fX11_seekRests_125, kI_0, kB_o, mo_p40, kI_4, kI_1, kI_2, kB_10, Option.bind_some, n35, n9, n19, n51, n59, nI_add, ix2, ix8, ix22, ix5, ↓reduceIte, lt_eq, c_takesOf, h1, h2, Bool.and_false, n0_0, n1_0, d20, d2_3, f2_3, hz, h3, cond_true, cond_false, Nat.reduceLT, Nat.reduceAdd, Nat.add_zero, hS]
set_option maxRecDepth 100000 in
set_option maxHeartbeats 400000 in
theorem lr4 (n : Nat) (v c : Int32) (h : aH) : lX10_rests_21 (n + 1) v c (nI 4) h = some (c, h) := by
  unfold lX10_rests_21
  simp (disch := omega) only [gX10_rests, fX10_rests_0, fX10_rests_2, fX10_rests_5, fX10_rests_9, fX10_rests_12, fX10_rests_15, fX10_rests_17, fX10_rests_21, fX10_rests_26, fX10_rests_33, fX10_rests_37, fX10_rests_38, fX10_rests_45, fX10_rests_49, fX10_rests_50, fX10_rests_53, fX10_rests_56, fX10_rests_60, fX10_rests_61, fX10_rests_69, lt_isO, kI_0, kB_9, kI_n, kI_4, kI_2, kI_1, Option.bind_some, n35, n9, n19, n51, n59, nI_add, ix2, ix8, ix22, ix5, ↓reduceIte, lt_eq, Nat.lt_irrefl]
set_option maxRecDepth 100000 in
set_option maxHeartbeats 400000 in
theorem ls4 (n : Nat) (v : Int32) (h : aH) : lX10_rest_19 (n + 1) v (nI 4) h = some (oi none, h) := by
  unfold lX10_rest_19
  simp (disch := omega) only [gX10_rest, fX10_rest_0, fX10_rest_2, fX10_rest_5, fX10_rest_9, fX10_rest_12, fX10_rest_15, fX10_rest_17, fX10_rest_19, fX10_rest_24, fX10_rest_30, fX10_rest_34, fX10_rest_35, fX10_rest_42, fX10_rest_46, fX10_rest_47, fX10_rest_50, fX10_rest_53, fX10_rest_64, fX10_rest_70, lt_isO, kI_0, kB_9, kI_n, kI_4, kI_2, kI_1, kB_10, kB_o, Option.bind_some, n35, n9, n19, n51, n59, nI_add, ix2, ix8, ix22, ix5, ↓reduceIte, lt_eq, Nat.lt_irrefl]
set_option maxRecDepth 100000 in
set_option maxHeartbeats 400000 in
theorem lm4 (n : Nat) (v c : Int32) (h : aH) : lX11_seekRests_10 (n + 1) 167 v c (nI 4) h = some (c, h) := by
  unfold lX11_seekRests_10
  simp (disch := omega) only [gX11_seekRests, fX11_seekRests_0, fX11_seekRests_10, fX11_seekRests_15, fX11_seekRests_20, fX11_seekRests_24, fX11_seekRests_25, fX11_seekRests_34, fX11_seekRests_38, fX11_seekRests_39, fX11_seekRests_47, fX11_seekRests_51, fX11_seekRests_52, fX11_seekRests_54, fX11_seekRests_57, fX11_seekRests_62, fX11_seekRests_65, fX11_seekRests_68, fX11_seekRests_74, fX11_seekRests_78, fX11_seekRests_79, fX11_seekRests_81, fX11_seekRests_84, fX11_seekRests_89, fX11_seekRests_92, fX11_seekRests_95, fX11_seekRests_98, fX11_seekRests_102, fX11_seekRests_116, fX11_seekRests_119, fX11_seekRests_125, kI_0, kB_o, mo_p40, kI_4, kI_1, kI_2, kB_10, Option.bind_some, n35, n9, n19, n51, n59, nI_add, ix2, ix8, ix22, ix5, ↓reduceIte, lt_eq, Nat.lt_irrefl]
set_option maxRecDepth 100000 in
set_option maxHeartbeats 400000 in
theorem c_restsL (v : Int32) (h : aH) : lX10_rests_21 FU v (nI 0) (nI 0) h = some (rCt v, h) := by
  rw [show FU = 39995 + 1 + 1 + 1 + 1 + 1 from FU_eq]
  unfold rCt
  generalize hr0 : rsB v false false = r0
  generalize hr1 : rsB v false true = r1
  generalize hr2 : rsB v true false = r2
  generalize hr3 : rsB v true true = r3
  have hc : ∀ b : Bool, cond b 1 0 ≤ 1 := fun b => by cases b <;> decide
  have q0 := hc r0
  have q1 := hc r1
  have q2 := hc r2
  rw [lr0 _ _ _ (by omega), hr0, lr1 _ _ _ (by omega), hr1, lr2 _ _ _ (by omega), hr2, lr3 _ _ _ (by omega), hr3, lr4, Nat.zero_add]
set_option maxRecDepth 100000 in
set_option maxHeartbeats 400000 in
theorem c_restL (v : Int32) (h : aH) : lX10_rest_19 FU v (nI 0) h = some (rFs v, h) := by
  rw [show FU = 39995 + 1 + 1 + 1 + 1 + 1 from FU_eq]
  unfold rFs
  rw [ls0, ls1, ls2, ls3, ls4]
  cases rsB v false false <;> cases rsB v false true <;> cases rsB v true false <;> cases rsB v true true <;> rfl
set_option maxRecDepth 100000 in
set_option maxHeartbeats 400000 in
theorem c_seekRests (v : Int32) : ∃ R : Row, gX11_seekRests 167 v (hp S J T) = some (rCt v, hp (stR S 167 R) J T) ∧ R 40 = rFs v ∧ ∀ j, j ≠ 40 → R j = S 167 j := by
  have e : gX11_seekRests 167 v (hp S J T) = lX11_seekRests_10 FU 167 v (nI 0) (nI 0) (hp (stR S 167 (up (S 167) 40 (oi none))) J T) := by
    simp (disch := omega) only [gX11_seekRests, fX11_seekRests_0, mo_p40, stS_R, kB_o, kI_0, Option.bind_some]
  rw [e, show FU = 39995 + 1 + 1 + 1 + 1 + 1 from FU_eq]
  unfold rCt rFs
  generalize hr0 : rsB v false false = r0
  generalize hr1 : rsB v false true = r1
  generalize hr2 : rsB v true false = r2
  generalize hr3 : rsB v true true = r3
  have hc : ∀ b : Bool, cond b 1 0 ≤ 1 := fun b => by cases b <;> decide
  have q0 := hc r0
  have q1 := hc r1
  have q2 := hc r2
  rw [lm0 _ _ _ (by omega), hr0, lm1 _ _ _ (by omega), hr1, lm2 _ _ _ (by omega), hr2, lm3 _ _ _ (by omega), hr3, lm4]
  simp only [stR_stR, stR_eq, Nat.zero_add]
  refine ⟨_, rfl, ?_, fun j hj => ?_⟩
  · cases r0 <;> cases r1 <;> cases r2 <;> cases r3 <;> simp only [cond_true, cond_false, Bool.true_and, Bool.false_and, Nat.reduceAdd, decide_true, decide_false, Nat.reduceEqDiff, up_eq] <;> rfl
  · cases r0 <;> cases r1 <;> cases r2 <;> cases r3 <;> simp (disch := omega) only [cond_true, cond_false, Bool.true_and, Bool.false_and, Nat.reduceAdd, decide_true, decide_false, Nat.reduceEqDiff, up_ne] <;> exact up_ne hj
set_option maxRecDepth 100000 in
set_option maxHeartbeats 400000 in
theorem q_rests (h : Rl S T) (n : Int32) : bth (fun h => gX10_rests 0 n h) (fun h => gX11_rests 167 n h) S J T := by
  obtain ⟨ht, P, N, F, U, E, hB⟩ := Rl_bas h
  obtain ⟨b1, b2, b3, b4, b5, b6, b7, b8, b9, b10⟩ := id hB
  cases hno : (ht && inB n (nI 0) (nI 9)) with
  | false =>
    refine bth_q h (v := m1) (tr := why ht (inB n (nI 0) (nI 9))) (cq_no ?_) (fun S1 hf => mq_no (X := up (nw S1) 11 (why ht (inB n (nI 0) (nI 9)))) ?_ up_eq (nw_p S1 _)) (why_4 _ _)
    · simp (disch := omega) only [gX10_rests, fX10_rests_0, fX10_rests_2, fX10_rests_5, fX10_rests_9, fX10_rests_12, fX10_rests_15, fX10_rests_17, fX10_rests_21, fX10_rests_26, fX10_rests_33, fX10_rests_37, fX10_rests_38, fX10_rests_45, fX10_rests_49, fX10_rests_50, fX10_rests_53, fX10_rests_56, fX10_rests_60, fX10_rests_61, fX10_rests_69, lt_isO, kI_0, kB_9, kI_n, kI_4, kI_2, kI_1, Option.bind_some, n35, n9, n19, n51, n59, nI_add, ix2, ix8, ix22, ix5, ↓reduceIte, lt_isO, c_lacksTable b1 b3 b5, b8, c_isRefused, hno, Bool.not_false, bI_t, n1_0]
    · have h14 : S1 167 14 = bI ht := by rw [hf 167 (by decide)]; exact b7
      simp (disch := omega) only [gX11_rests, fX11_rests_0, fX11_rests_1, fX11_rests_4, fX11_rests_13, fX11_rests_16, fX11_rests_19, fX11_rests_24, fX11_rests_26, fX11_rests_29, fX11_rests_32, fX11_rests_34, fX11_rests_37, mo_isO, mo_g14, kI_0, kB_9, Option.bind_some, n35, n9, n19, n51, n59, nI_add, ix2, ix8, ix22, ix5, ↓reduceIte, c_anew, stR_eq, up_ne, h14, c_in, c_why, why_ne hno, c_no, stR_stR, nw]
  | true =>
    rw [Bool.and_eq_true] at hno
    obtain ⟨rfl, hin⟩ := hno
    have hlk := c_lack1 (J := J) hB
    refine bth_q h (v := rCt n) (tr := nI 0) (cq_no ?_) (fun S1 hf => ?_) n0_4
    · simp (disch := omega) only [gX10_rests, fX10_rests_0, fX10_rests_2, fX10_rests_5, fX10_rests_9, fX10_rests_12, fX10_rests_15, fX10_rests_17, fX10_rests_21, fX10_rests_26, fX10_rests_33, fX10_rests_37, fX10_rests_38, fX10_rests_45, fX10_rests_49, fX10_rests_50, fX10_rests_53, fX10_rests_56, fX10_rests_60, fX10_rests_61, fX10_rests_69, lt_isO, kI_0, kB_9, kI_n, kI_4, kI_2, kI_1, Option.bind_some, n35, n9, n19, n51, n59, nI_add, ix2, ix8, ix22, ix5, ↓reduceIte, lt_isO, hlk, c_isRef1 hin, n0_0, c_restsL]
    · have h14 : nw S1 14 = bI true := by rw [nw14, hf 167 (by decide)]; exact b7
      have hanew : gX11_anew 167 (hp S1 J T) = some (hp (stR S1 167 (nw S1)) J T) := c_anew
      obtain ⟨R, r1, r2, r3⟩ := c_seekRests (S := stR S1 167 (nw S1)) (J := J) (T := T) n
      have w0 : (why true true = 0) = True := eq_true (by decide)
      rw [stR_stR] at r1
      refine mq_no (X := R) ?_ (by rw [r3 11 (by omega), stR_eq]; exact up_eq) (fun j hj => ?_)
      · simp (disch := omega) only [gX11_rests, fX11_rests_0, fX11_rests_1, fX11_rests_4, fX11_rests_13, fX11_rests_16, fX11_rests_19, fX11_rests_24, fX11_rests_26, fX11_rests_29, fX11_rests_32, fX11_rests_34, fX11_rests_37, mo_isO, mo_g14, kI_0, kB_9, Option.bind_some, n35, n9, n19, n51, n59, nI_add, ix2, ix8, ix22, ix5, ↓reduceIte, hanew, stR_eq, h14, c_in, hin, c_why, w0, r1, r2]
      · have : j ≠ 40 := by
          intro z
          subst z
          exact absurd hj (by decide)
        rw [r3 j this, stR_eq]
        exact nw_q S1 j hj
set_option maxRecDepth 100000 in
set_option maxHeartbeats 400000 in
theorem q_rest (h : Rl S T) (n : Int32) : bth (fun h => gX10_rest 0 n h) (fun h => gX11_rest 167 n h) S J T := by
  obtain ⟨ht, P, N, F, U, E, hB⟩ := Rl_bas h
  obtain ⟨b1, b2, b3, b4, b5, b6, b7, b8, b9, b10⟩ := id hB
  cases hno : (ht && inB n (nI 0) (nI 9)) with
  | false =>
    refine bth_q h (v := m1) (tr := why ht (inB n (nI 0) (nI 9))) (cq_no ?_) (fun S1 hf => mq_no (X := up (nw S1) 11 (why ht (inB n (nI 0) (nI 9)))) ?_ up_eq (nw_p S1 _)) (why_4 _ _)
    · simp (disch := omega) only [gX10_rest, fX10_rest_0, fX10_rest_2, fX10_rest_5, fX10_rest_9, fX10_rest_12, fX10_rest_15, fX10_rest_17, fX10_rest_19, fX10_rest_24, fX10_rest_30, fX10_rest_34, fX10_rest_35, fX10_rest_42, fX10_rest_46, fX10_rest_47, fX10_rest_50, fX10_rest_53, fX10_rest_64, fX10_rest_70, lt_isO, kI_0, kB_9, kI_n, kI_4, kI_2, kI_1, kB_10, kB_o, Option.bind_some, n35, n9, n19, n51, n59, nI_add, ix2, ix8, ix22, ix5, ↓reduceIte, lt_isO, c_lacksTable b1 b3 b5, b8, c_isRefused, hno, Bool.not_false, bI_t, n1_0]
    · have h14 : S1 167 14 = bI ht := by rw [hf 167 (by decide)]; exact b7
      simp (disch := omega) only [gX11_rest, fX11_rest_0, fX11_rest_1, fX11_rest_4, fX11_rest_13, fX11_rest_16, fX11_rest_19, fX11_rest_24, fX11_rest_26, fX11_rest_29, fX11_rest_30, fX11_rest_32, fX11_rest_35, mo_isO, mo_g14, kI_0, kB_9, mo_g40, Option.bind_some, n35, n9, n19, n51, n59, nI_add, ix2, ix8, ix22, ix5, ↓reduceIte, c_anew, stR_eq, up_ne, h14, c_in, c_why, why_ne hno, c_no, stR_stR, nw]
  | true =>
    rw [Bool.and_eq_true] at hno
    obtain ⟨rfl, hin⟩ := hno
    have hlk := c_lack1 (J := J) hB
    refine bth_q h (v := rFs n) (tr := nI 0) (cq_no ?_) (fun S1 hf => ?_) n0_4
    · simp (disch := omega) only [gX10_rest, fX10_rest_0, fX10_rest_2, fX10_rest_5, fX10_rest_9, fX10_rest_12, fX10_rest_15, fX10_rest_17, fX10_rest_19, fX10_rest_24, fX10_rest_30, fX10_rest_34, fX10_rest_35, fX10_rest_42, fX10_rest_46, fX10_rest_47, fX10_rest_50, fX10_rest_53, fX10_rest_64, fX10_rest_70, lt_isO, kI_0, kB_9, kI_n, kI_4, kI_2, kI_1, kB_10, kB_o, Option.bind_some, n35, n9, n19, n51, n59, nI_add, ix2, ix8, ix22, ix5, ↓reduceIte, lt_isO, hlk, c_isRef1 hin, n0_0, c_restL]
    · have h14 : nw S1 14 = bI true := by rw [nw14, hf 167 (by decide)]; exact b7
      have hanew : gX11_anew 167 (hp S1 J T) = some (hp (stR S1 167 (nw S1)) J T) := c_anew
      obtain ⟨R, r1, r2, r3⟩ := c_seekRests (S := stR S1 167 (nw S1)) (J := J) (T := T) n
      have w0 : (why true true = 0) = True := eq_true (by decide)
      rw [stR_stR] at r1
      refine mq_no (X := R) ?_ (by rw [r3 11 (by omega), stR_eq]; exact up_eq) (fun j hj => ?_)
      · simp (disch := omega) only [gX11_rest, fX11_rest_0, fX11_rest_1, fX11_rest_4, fX11_rest_13, fX11_rest_16, fX11_rest_19, fX11_rest_24, fX11_rest_26, fX11_rest_29, fX11_rest_30, fX11_rest_32, fX11_rest_35, mo_isO, mo_g14, kI_0, kB_9, mo_g40, Option.bind_some, n35, n9, n19, n51, n59, nI_add, ix2, ix8, ix22, ix5, ↓reduceIte, hanew, stR_eq, h14, c_in, hin, c_why, w0, r1, r2]
      · have : j ≠ 40 := by
          intro z
          subst z
          exact absurd hj (by decide)
        rw [r3 j this, stR_eq]
        exact nw_q S1 j hj
set_option maxRecDepth 100000 in
set_option maxHeartbeats 400000 in
theorem q_takes (h : Rl S T) (n a b c : Int32) : bth (fun h => gX10_takes 0 n a b c h) (fun h => gX11_takes 167 n a b c h) S J T := by
  obtain ⟨ht, P, N, F, U, E, hB⟩ := Rl_bas h
  obtain ⟨b1, b2, b3, b4, b5, b6, b7, b8, b9, b10⟩ := id hB
  cases hno : (ht && inB n (nI 0) (nI 9)) with
  | false =>
    refine bth_q h (v := m100) (tr := why ht (inB n (nI 0) (nI 9))) (cq_no ?_) (fun S1 hf => mq_no (X := up (nw S1) 11 (why ht (inB n (nI 0) (nI 9)))) ?_ up_eq (nw_p S1 _)) (why_4 _ _)
    · simp (disch := omega) only [gX10_takes, fX10_takes_0, fX10_takes_2, fX10_takes_5, fX10_takes_9, fX10_takes_12, fX10_takes_15, fX10_takes_18, fX10_takes_23, fX10_takes_26, fX10_takes_29, fX10_takes_32, fX10_takes_35, fX10_takes_38, lt_isO, kI_0, kB_9, kB_h, Option.bind_some, n35, n9, n19, n51, n59, nI_add, ix2, ix8, ix22, ix5, ↓reduceIte, lt_isO, c_lacksTable b1 b3 b5, b8, c_isRefused, hno, Bool.not_false, bI_t, n1_0]
    · have h14 : S1 167 14 = bI ht := by rw [hf 167 (by decide)]; exact b7
      simp (disch := omega) only [gX11_takes, fX11_takes_0, fX11_takes_1, fX11_takes_4, fX11_takes_13, fX11_takes_16, fX11_takes_19, fX11_takes_26, fX11_takes_31, fX11_takes_34, fX11_takes_37, fX11_takes_40, fX11_takes_43, fX11_takes_46, fX11_takes_47, mo_isO, mo_g14, kI_0, kB_9, mo_p11, kB_h, Option.bind_some, n35, n9, n19, n51, n59, nI_add, ix2, ix8, ix22, ix5, ↓reduceIte, c_anew, stR_eq, up_ne, h14, c_in, c_why, why_ne hno, stS_R, stR_stR, nw]
  | true =>
    rw [Bool.and_eq_true] at hno
    obtain ⟨rfl, hin⟩ := hno
    have hlk := c_lack1 (J := J) hB
    have w0 : (why true true = 0) = True := eq_true (by decide)
    by_cases hc : c = 0
    · refine bth_q h (v := ga n a b) (tr := nI 0) (cq_no ?_) (fun S1 hf => mq_no (X := nw S1) ?_ up_eq (nw_q S1)) n0_4
      · simp (disch := omega) only [gX10_takes, fX10_takes_0, fX10_takes_2, fX10_takes_5, fX10_takes_9, fX10_takes_12, fX10_takes_15, fX10_takes_18, fX10_takes_23, fX10_takes_26, fX10_takes_29, fX10_takes_32, fX10_takes_35, fX10_takes_38, lt_isO, kI_0, kB_9, kB_h, Option.bind_some, n35, n9, n19, n51, n59, nI_add, ix2, ix8, ix22, ix5, ↓reduceIte, lt_isO, hlk, c_isRef1 hin, n0_0, c_gain, hc]
      · have h14 : nw S1 14 = bI true := by rw [nw14, hf 167 (by decide)]; exact b7
        have hanew : gX11_anew 167 (hp S1 J T) = some (hp (stR S1 167 (nw S1)) J T) := c_anew
        simp (disch := omega) only [gX11_takes, fX11_takes_0, fX11_takes_1, fX11_takes_4, fX11_takes_13, fX11_takes_16, fX11_takes_19, fX11_takes_26, fX11_takes_31, fX11_takes_34, fX11_takes_37, fX11_takes_40, fX11_takes_43, fX11_takes_46, fX11_takes_47, mo_isO, mo_g14, kI_0, kB_9, mo_p11, kB_h, Option.bind_some, n35, n9, n19, n51, n59, nI_add, ix2, ix8, ix22, ix5, ↓reduceIte, hanew, stR_eq, h14, c_in, hin, c_why, w0, c_takesOf, hc]
    · refine bth_q h (v := ga n b a) (tr := nI 0) (cq_no ?_) (fun S1 hf => mq_no (X := nw S1) ?_ up_eq (nw_q S1)) n0_4
      · simp (disch := omega) only [gX10_takes, fX10_takes_0, fX10_takes_2, fX10_takes_5, fX10_takes_9, fX10_takes_12, fX10_takes_15, fX10_takes_18, fX10_takes_23, fX10_takes_26, fX10_takes_29, fX10_takes_32, fX10_takes_35, fX10_takes_38, lt_isO, kI_0, kB_9, kB_h, Option.bind_some, n35, n9, n19, n51, n59, nI_add, ix2, ix8, ix22, ix5, ↓reduceIte, lt_isO, hlk, c_isRef1 hin, n0_0, c_gain, hc]
      · have h14 : nw S1 14 = bI true := by rw [nw14, hf 167 (by decide)]; exact b7
        have hanew : gX11_anew 167 (hp S1 J T) = some (hp (stR S1 167 (nw S1)) J T) := c_anew
        simp (disch := omega) only [gX11_takes, fX11_takes_0, fX11_takes_1, fX11_takes_4, fX11_takes_13, fX11_takes_16, fX11_takes_19, fX11_takes_26, fX11_takes_31, fX11_takes_34, fX11_takes_37, fX11_takes_40, fX11_takes_43, fX11_takes_46, fX11_takes_47, mo_isO, mo_g14, kI_0, kB_9, mo_p11, kB_h, Option.bind_some, n35, n9, n19, n51, n59, nI_add, ix2, ix8, ix22, ix5, ↓reduceIte, hanew, stR_eq, h14, c_in, hin, c_why, w0, c_takesOf, hc]
end Q11

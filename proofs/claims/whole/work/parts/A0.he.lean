-- HEARSAY: the i-th set, asked
section HE15
variable {S S0 : Mem} {J : MeJ} {T : Nat → Nat} {t P N F U E : Nat}
set_option maxRecDepth 100000 in
set_option maxHeartbeats 400000 in
theorem c_setAt {i : Int32} : ∃ b, gX3_setAt 38 i (hp S J T) = some (om b, hp S J T) ∧ pfS (bt (S 38 3)) i 16 b := by
  obtain ⟨b, k1, k2⟩ := l_setAt (S := S) (J := J) (T := T) (i := i) 16 0 FU i (by omega) (FU_lt (by omega)) (add0 i) (by intro j hj; omega)
  refine ⟨b, ?_, k2⟩
  unfold gX3_setAt fX3_setAt_0
  rw [kI_0]
  exact k1
set_option maxRecDepth 100000 in
set_option maxHeartbeats 400000 in
theorem fit_bt {r Z X : Row} {j : Nat} (hU : U < 5) : bt (wgF (itr (wgS r Z P N F U E) (2 ^ U) 0 (wg0 X)) 3) j = (decide (j < 2 ^ U) && fi r Z P N F U E j) := by
  have h16 := (pw_U U hU).2
  by_cases hj : j < 32
  · rw [wgF_3, wg_3 hj (2 ^ U) 0 _ (by omega)]
    have e : wg0 X 3 = nI 0 := by unfold wg0; rw [up_ne (by omega), up_ne (by omega), up_ne (by omega), up_eq]
    rw [e, b_0, Bool.false_or, decide_eq_true (Nat.zero_le j), Bool.true_and, Nat.zero_add]
  · rw [decide_eq_false (show ¬ j < 2 ^ U by omega), Bool.false_and]
    exact BitVec.getLsbD_of_ge _ _ (by omega)
set_option maxRecDepth 100000 in
set_option maxHeartbeats 400000 in
theorem fit_tie {r Z X : Row} {i : Int32} {b : Option Nat} (hU : U < 5) (h : pfS (fi r Z P N F U E) i (2 ^ U) b) : pfS (bt (wgF (itr (wgS r Z P N F U E) (2 ^ U) 0 (wg0 X)) 3)) i 16 b := by
  have h16 := (pw_U U hU).2
  have q := pfS_x (p := bt (wgF (itr (wgS r Z P N F U E) (2 ^ U) 0 (wg0 X)) 3)) h (fun j => fit_bt hU) (16 - 2 ^ U)
  rwa [show 2 ^ U + (16 - 2 ^ U) = 16 by omega] at q
set_option maxRecDepth 100000 in
set_option maxHeartbeats 400000 in
theorem skQ_1 {r Z X : Row} {i : Int32} : ∃ b, (skQ r Z P N F U E i X).1 = om b ∧ pfS (fi r Z P N F U E) i (2 ^ U) b := by
  obtain ⟨b, h1, h2⟩ := sk_pf (r := r) (Z := Z) (P := P) (N := N) (F := F) (U := U) (E := E) (v1 := i) (2 ^ U) 0 none (m1, nI 0, nI 0, nI (2 ^ U - 1), z4 X) rfl rfl (by intro j hj; omega)
  rw [Nat.zero_add] at h2
  exact ⟨b, h1, h2⟩
set_option maxRecDepth 100000 in
set_option maxHeartbeats 400000 in
theorem q_fitAt (h : Rl S T) (i : Int32) : bth (fun h => gX10_fitAt 0 i h) (fun h => gX11_fitAt 167 i h) S J T := by
  obtain ⟨ht, P, N, F, U, E, hB⟩ := Rl_bas h
  obtain ⟨b1, b2, b3, b4, b5, b6, b7, b8, b9, b10⟩ := id hB
  have hanew : ∀ S1 : Mem, gX11_anew 167 (hp S1 J T) = some (hp (stR S1 167 (nw S1)) J T) := fun S1 => c_anew
  cases ht with
  | false =>
    refine bth_q h (v := m1) (tr := nI 1) (cq_no ?_) (fun S1 hf => mq_no (X := up (nw S1) 11 (nI 1)) ?_ up_eq (nw_p S1 _)) n1_4
    · simp (disch := omega) only [gX10_fitAt, fX10_fitAt_0, fX10_fitAt_1, fX10_fitAt_4, fX10_fitAt_7, fX10_fitAt_11, fX10_fitAt_13, fX10_fitAt_16, fX10_fitAt_17, fX10_fitAt_25, fX10_fitAt_28, fX10_fitAt_33, fX10_fitAt_36, fX10_fitAt_41, fX10_fitAt_43, fX10_fitAt_46, fX10_fitAt_49, fX10_fitAt_51, fX10_fitAt_54, lt_isO, kI_1, lt_f3, lt_f9, he_isO, Option.bind_some, n35, n9, n19, n51, n59, nI_add, ix2, ix8, ix22, ix5, ↓reduceIte, lt_isO, c_lacksTable b1 b3 b5, b8, Bool.not_false, bI_t, n1_0, c_refuse]
    · have h14 : nw S1 14 = nI 0 := by rw [nw14, hf 167 (by decide)]; exact b7
      simp (disch := omega) only [gX11_fitAt, fX11_fitAt_0, fX11_fitAt_1, fX11_fitAt_4, fX11_fitAt_11, fX11_fitAt_15, fX11_fitAt_17, fX11_fitAt_20, fX11_fitAt_21, fX11_fitAt_23, fX11_fitAt_26, fX11_fitAt_31, fX11_fitAt_33, fX11_fitAt_36, fX11_fitAt_39, fX11_fitAt_40, mo_isO, mo_g14, kI_1, Option.bind_some, n35, n9, n19, n51, n59, nI_add, ix2, ix8, ix22, ix5, ↓reduceIte, hanew, stR_eq, h14, n0_0, c_no, stR_stR]
  | true =>
    have hlk := c_lack1 (J := J) hB
    have hy := b9 rfl
    by_cases hi : i < 0
    · refine bth_q h (v := m1) (tr := nI 1) (cq_no ?_) (fun S1 hf => mq_no (X := up (nw S1) 11 (nI 1)) ?_ up_eq (nw_p S1 _)) n1_4
      · simp (disch := omega) only [gX10_fitAt, fX10_fitAt_0, fX10_fitAt_1, fX10_fitAt_4, fX10_fitAt_7, fX10_fitAt_11, fX10_fitAt_13, fX10_fitAt_16, fX10_fitAt_17, fX10_fitAt_25, fX10_fitAt_28, fX10_fitAt_33, fX10_fitAt_36, fX10_fitAt_41, fX10_fitAt_43, fX10_fitAt_46, fX10_fitAt_49, fX10_fitAt_51, fX10_fitAt_54, lt_isO, kI_1, lt_f3, lt_f9, he_isO, Option.bind_some, n35, n9, n19, n51, n59, nI_add, ix2, ix8, ix22, ix5, ↓reduceIte, lt_isO, hlk, n0_0, hi, c_refuse]
      · have h14 : nw S1 14 = nI 1 := by rw [nw14, hf 167 (by decide)]; exact b7
        simp (disch := omega) only [gX11_fitAt, fX11_fitAt_0, fX11_fitAt_1, fX11_fitAt_4, fX11_fitAt_11, fX11_fitAt_15, fX11_fitAt_17, fX11_fitAt_20, fX11_fitAt_21, fX11_fitAt_23, fX11_fitAt_26, fX11_fitAt_31, fX11_fitAt_33, fX11_fitAt_36, fX11_fitAt_39, fX11_fitAt_40, mo_isO, mo_g14, kI_1, Option.bind_some, n35, n9, n19, n51, n59, nI_add, ix2, ix8, ix22, ix5, ↓reduceIte, hanew, stR_eq, h14, n1_0, hi, c_no, stR_stR]
    · obtain ⟨S', k1, k2, k3⟩ := c_weigh (S := S) (S0 := S) (J := J) (T := T) b1 b2 hy rfl
      obtain ⟨b, a1, a2⟩ := c_setAt (S := S') (J := J) (T := T) (i := i)
      have hU : U < 5 := by have := hy.1.2.2.2.2.2.1; omega
      rw [k2] at a2
      have hb16 : ∀ s, b = some s → s < 16 := fun s hs => by rw [hs] at a2; exact a2.1
      have f0 : S' 0 = S 0 := k3 0 (by decide)
      have hne : ∀ j, j ∈ pM → j ≠ 25 ∧ j ≠ 26 ∧ j ≠ 37 ∧ j ≠ 38 ∧ j ≠ 39 := by decide
      have hm : ∀ S1, fr S S1 CL → ∃ S2, gX11_seekSets 167 i (hp (stR S1 167 (nw S1)) J T) = some (om b, hp S2 J T) ∧ fr S1 S2 ML ∧ S2 167 11 = nI 0 ∧ ∀ j, j ∈ pM → S2 167 j = S1 167 j := fun S1 hf => by
        obtain ⟨S2, w1, w2, w3, w4, w5, w6, w7⟩ := c_seek (S := S) (S0 := stR S1 167 (nw S1)) (J := J) (T := T) (v1 := i) hy (by rw [stR_ne (by omega)]; exact hf 170 (by decide)) (by rw [stR_ne (by omega)]; exact hf 172 (by decide))
        obtain ⟨b', c1, c2⟩ := skQ_1 (r := S 170) (Z := S 172) (P := P) (N := N) (F := F) (U := U) (E := E) (i := i) (X := stR S1 167 (nw S1) 180)
        have e := pfS_uni (by omega) a2 (fit_tie (X := S 38) hU c2)
        rw [c1, ← e] at w1
        refine ⟨S2, w1, fr_tr (fr_st (fr_rf S1 _) (by decide)) (fr_mo w6 (by decide)), by rw [w7 11 (by omega) (by omega) (by omega) (by omega) (by omega), stR_eq]; exact up_eq, fun j hj => ?_⟩
        obtain ⟨a, b, c, d, e⟩ := hne j hj
        rw [w7 j a b c d e, stR_eq]
        exact nw_q S1 j hj
      cases b with
      | none =>
        have hom : om none = m1 := rfl
        rw [hom] at a1
        refine bth_q h (v := m1) (tr := nI 1) ⟨stR S' 0 (up (S' 0) 11 (nI 1)), ?_, fr_st (fr_mo k3 (by decide)) (by decide), by rw [stR_eq, up_eq], by rw [stR_eq, up_ne (by omega), f0]⟩ (fun S1 hf => ?_) n1_4
        · simp (disch := omega) only [gX10_fitAt, fX10_fitAt_0, fX10_fitAt_1, fX10_fitAt_4, fX10_fitAt_7, fX10_fitAt_11, fX10_fitAt_13, fX10_fitAt_16, fX10_fitAt_17, fX10_fitAt_25, fX10_fitAt_28, fX10_fitAt_33, fX10_fitAt_36, fX10_fitAt_41, fX10_fitAt_43, fX10_fitAt_46, fX10_fitAt_49, fX10_fitAt_51, fX10_fitAt_54, lt_isO, kI_1, lt_f3, lt_f9, he_isO, Option.bind_some, n35, n9, n19, n51, n59, nI_add, ix2, ix8, ix22, ix5, ↓reduceIte, lt_isO, he_isO, hlk, n0_0, hi, k1, a1, mn_lt, c_refuse]
        · have h14 : nw S1 14 = nI 1 := by rw [nw14, hf 167 (by decide)]; exact b7
          obtain ⟨S2, w1, w2, w3, w4⟩ := hm S1 hf
          rw [hom] at w1
          refine ⟨stR S2 167 (up (S2 167) 11 (nI 1)), ?_, fr_st w2 (by decide), by rw [stR_eq, up_eq], fun j hj => by rw [stR_eq, up_ne (pM_ne hj).2.1]; exact w4 j hj⟩
          simp (disch := omega) only [gX11_fitAt, fX11_fitAt_0, fX11_fitAt_1, fX11_fitAt_4, fX11_fitAt_11, fX11_fitAt_15, fX11_fitAt_17, fX11_fitAt_20, fX11_fitAt_21, fX11_fitAt_23, fX11_fitAt_26, fX11_fitAt_31, fX11_fitAt_33, fX11_fitAt_36, fX11_fitAt_39, fX11_fitAt_40, mo_isO, mo_g14, kI_1, Option.bind_some, n35, n9, n19, n51, n59, nI_add, ix2, ix8, ix22, ix5, ↓reduceIte, hanew, stR_eq, h14, n1_0, hi, w1, mn_lt, c_no]
      | some s =>
        have hs := hb16 s rfl
        have hom : om (some s) = nI s := rfl
        rw [hom] at a1
        refine bth_q h (v := nI s) (tr := nI 0) ⟨stR S' 0 (up (S' 0) 11 (nI 0)), ?_, fr_st (fr_mo k3 (by decide)) (by decide), by rw [stR_eq, up_eq], by rw [stR_eq, up_ne (by omega), f0]⟩ (fun S1 hf => ?_) n0_4
        · simp (disch := omega) only [gX10_fitAt, fX10_fitAt_0, fX10_fitAt_1, fX10_fitAt_4, fX10_fitAt_7, fX10_fitAt_11, fX10_fitAt_13, fX10_fitAt_16, fX10_fitAt_17, fX10_fitAt_25, fX10_fitAt_28, fX10_fitAt_33, fX10_fitAt_36, fX10_fitAt_41, fX10_fitAt_43, fX10_fitAt_46, fX10_fitAt_49, fX10_fitAt_51, fX10_fitAt_54, lt_isO, kI_1, lt_f3, lt_f9, he_isO, Option.bind_some, n35, n9, n19, n51, n59, nI_add, ix2, ix8, ix22, ix5, ↓reduceIte, lt_isO, he_isO, hlk, n0_0, hi, k1, a1, nI_lt0, c_answer]
        · have h14 : nw S1 14 = nI 1 := by rw [nw14, hf 167 (by decide)]; exact b7
          obtain ⟨S2, w1, w2, w3, w4⟩ := hm S1 hf
          rw [hom] at w1
          refine ⟨S2, ?_, w2, w3, w4⟩
          simp (disch := omega) only [gX11_fitAt, fX11_fitAt_0, fX11_fitAt_1, fX11_fitAt_4, fX11_fitAt_11, fX11_fitAt_15, fX11_fitAt_17, fX11_fitAt_20, fX11_fitAt_21, fX11_fitAt_23, fX11_fitAt_26, fX11_fitAt_31, fX11_fitAt_33, fX11_fitAt_36, fX11_fitAt_39, fX11_fitAt_40, mo_isO, mo_g14, kI_1, Option.bind_some, n35, n9, n19, n51, n59, nI_add, ix2, ix8, ix22, ix5, ↓reduceIte, hanew, stR_eq, h14, n1_0, hi, w1, nI_lt0]
end HE15

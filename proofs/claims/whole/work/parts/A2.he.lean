-- HEARSAY: ask, askLeaves
section HE17
variable {S S0 : Mem} {J : MeJ} {T : Nat → Nat} {t P N F U E : Nat}
set_option maxRecDepth 100000 in
set_option maxHeartbeats 400000 in
theorem q_ask (h : Rl S T) : bth (fun h => gX10_ask 0 h) (fun h => gX11_ask 167 h) S J T := by
  obtain ⟨ht, P, N, F, U, E, hB⟩ := Rl_bas h
  obtain ⟨b1, b2, b3, b4, b5, b6, b7, b8, b9, b10⟩ := id hB
  have hanew : ∀ S1 : Mem, gX11_anew 167 (hp S1 J T) = some (hp (stR S1 167 (nw S1)) J T) := fun S1 => c_anew
  cases ht with
  | false =>
    refine bth_q h (v := m1) (tr := nI 1) (cq_no ?_) (fun S1 hf => mq_no (X := up (nw S1) 11 (nI 1)) ?_ up_eq (nw_p S1 _)) n1_4
    · simp (disch := omega) only [gX10_ask, fX10_ask_0, fX10_ask_1, fX10_ask_4, fX10_ask_7, fX10_ask_9, fX10_ask_12, fX10_ask_13, fX10_ask_21, fX10_ask_24, fX10_ask_33, fX10_ask_36, fX10_ask_39, lt_isO, kI_1, lt_f3, lt_f9, he_isO, Option.bind_some, n35, n9, n19, n51, n59, nI_add, ix2, ix8, ix22, ix5, ↓reduceIte, lt_isO, c_lacksTable b1 b3 b5, b8, Bool.not_false, bI_t, n1_0, c_refuse]
    · have h14 : nw S1 14 = nI 0 := by rw [nw14, hf 167 (by decide)]; exact b7
      simp (disch := omega) only [gX11_ask, fX11_ask_0, fX11_ask_1, fX11_ask_4, fX11_ask_11, fX11_ask_12, fX11_ask_15, fX11_ask_18, fX11_ask_20, fX11_ask_23, mo_isO, mo_g14, kI_1, Option.bind_some, n35, n9, n19, n51, n59, nI_add, ix2, ix8, ix22, ix5, ↓reduceIte, hanew, stR_eq, h14, n0_0, c_no, stR_stR]
  | true =>
    have hlk := c_lack1 (J := J) hB
    have hy := b9 rfl
    have hU : U < 5 := by have := hy.1.2.2.2.2.2.1; omega
    obtain ⟨S', k1, k2, k3⟩ := c_weigh (S := S) (S0 := S) (J := J) (T := T) b1 b2 hy rfl
    have hwh := c_whom (S := S') (J := J) (T := T) (t := T 0) (U := U) b1 (by rw [k3 (T 0) (by simp; omega), hy.2.1.1 6 (by omega)]; exact hy.1.2.2.2.2.1) (by omega)
    generalize hx : askF (S' 38 0) (lam (S' 38)) U = x at hwh
    have hxu : ∀ u, x = some u → u < U := fun u hu => by rw [hu] at hx; exact askF_lt hx
    have f0 : S' 0 = S 0 := k3 0 (by decide)
    have hne : ∀ j, j ∈ pM → j ≠ 25 ∧ j ≠ 26 ∧ j ≠ 37 ∧ j ≠ 38 ∧ j ≠ 39 := by decide
    have hm : ∀ S1, fr S S1 CL → ∃ S2, gX11_askOf 167 (hp (stR S1 167 (nw S1)) J T) = some (oi x, hp S2 J T) ∧ (∀ u, u < U → gX11_leavesOf 167 (nI u) (hp S2 J T) = some (lam (S' 38) u, hp S2 J T)) ∧ fr S1 S2 ML ∧ S2 167 11 = nI 0 ∧ ∀ j, j ∈ pM → S2 167 j = S1 167 j := fun S1 hf => by
      obtain ⟨S2, w1, w2, w3, w4, w5, w6, w7⟩ := c_seek (S := S) (S0 := stR S1 167 (nw S1)) (J := J) (T := T) (v1 := m1) hy (by rw [stR_ne (by omega)]; exact hf 170 (by decide)) (by rw [stR_ne (by omega)]; exact hf 172 (by decide))
      have e37 : S2 167 37 = S' 38 0 := by
        rw [w2, k2, wgF_01 (by omega)]
        exact (tie2 (v1 := m1) (2 ^ U) 0 (wg0 (S 38)) (m1, nI 0, nI 0, nI (2 ^ U - 1), z4 (stR S1 167 (nw S1) 180)) (by unfold wg0; rw [up_ne (by omega), up_ne (by omega), up_eq]) (by unfold wg0; rw [up_ne (by omega), up_eq])).1.symm
      have e180 : ∀ u, u < U → S2 180 u = wt (bt (S' 38 3)) u 16 := fun u hu => by
        have h16 := (pw_U U hU).2
        have z := sk_of (r := S 170) (Z := S 172) (P := P) (N := N) (F := F) (E := E) (v1 := m1) hU hu (2 ^ U) 0 (m1, nI 0, nI 0, nI (2 ^ U - 1), z4 (stR S1 167 (nw S1) 180)) (z4_at _ u (by omega))
        rw [w5, k2]
        refine Eq.trans z ?_
        rw [Nat.zero_add]
        have z2 := wt_x (p := bt (wgF (itr (wgS (S 170) (S 172) P N F U E) (2 ^ U) 0 (wg0 (S 38))) 3)) (u := u) (n := 2 ^ U) (fun j hj => by rw [fit_bt hU, decide_eq_false (by omega)]; rfl) (16 - 2 ^ U)
        rw [show 2 ^ U + (16 - 2 ^ U) = 16 by omega] at z2
        rw [z2]
        exact wt_cg _ (fun j hj => by rw [fit_bt hU, decide_eq_true hj, Bool.true_and])
      have hle : ∀ u, u < U → lem (S2 167 37) (S2 180) u = lam (S' 38) u := fun u hu => by
        unfold lem lam
        rw [e37, e180 u hu]
        exact mx_sw _ _
      have h170 : S2 170 = S 170 := by rw [w6 170 (by decide), stR_ne (by omega)]; exact hf 170 (by decide)
      have hl := l_askOf (S := S2) (J := J) (T := T) (U := U) (by rw [h170]; exact hy.1.2.2.2.2.1) (by omega)
      rw [askF_cg hle, e37, hx] at hl
      refine ⟨S2, ?_, fun u hu => by rw [c_leaves (by omega), hle u hu], fr_tr (fr_st (fr_rf S1 _) (by decide)) (fr_mo w6 (by decide)), by rw [w7 11 (by omega) (by omega) (by omega) (by omega) (by omega), stR_eq]; exact up_eq, fun j hj => ?_⟩
      · unfold gX11_askOf fX11_askOf_0 fX11_askOf_2
        rw [mo_isO, Option.bind_some, kI_n, w1, Option.bind_some]
        unfold fX11_askOf_5
        rw [kB_o, kI_0]
        exact hl
      · obtain ⟨a, b, c, d, e⟩ := hne j hj
        rw [w7 j a b c d e, stR_eq]
        exact nw_q S1 j hj
    refine bth_q h (v := oi x) (tr := nI 0) ⟨stR S' 0 (up (S' 0) 11 (nI 0)), ?_, fr_st (fr_mo k3 (by decide)) (by decide), by rw [stR_eq, up_eq], by rw [stR_eq, up_ne (by omega), f0]⟩ (fun S1 hf => ?_) n0_4
    · simp (disch := omega) only [gX10_ask, fX10_ask_0, fX10_ask_1, fX10_ask_4, fX10_ask_7, fX10_ask_9, fX10_ask_12, fX10_ask_13, fX10_ask_21, fX10_ask_24, fX10_ask_33, fX10_ask_36, fX10_ask_39, lt_isO, kI_1, lt_f3, lt_f9, he_isO, Option.bind_some, n35, n9, n19, n51, n59, nI_add, ix2, ix8, ix22, ix5, ↓reduceIte, lt_isO, he_isO, hlk, n0_0, k1, hwh, c_answer]
    · have h14 : nw S1 14 = nI 1 := by rw [nw14, hf 167 (by decide)]; exact b7
      obtain ⟨S2, w1, w1', w2, w3, w4⟩ := hm S1 hf
      refine ⟨S2, ?_, w2, w3, w4⟩
      simp (disch := omega) only [gX11_ask, fX11_ask_0, fX11_ask_1, fX11_ask_4, fX11_ask_11, fX11_ask_12, fX11_ask_15, fX11_ask_18, fX11_ask_20, fX11_ask_23, mo_isO, mo_g14, kI_1, Option.bind_some, n35, n9, n19, n51, n59, nI_add, ix2, ix8, ix22, ix5, ↓reduceIte, hanew, stR_eq, h14, n1_0, w1]
set_option maxRecDepth 100000 in
set_option maxHeartbeats 400000 in
theorem q_askLeaves (h : Rl S T) : bth (fun h => gX10_askLeaves 0 h) (fun h => gX11_askLeaves 167 h) S J T := by
  obtain ⟨ht, P, N, F, U, E, hB⟩ := Rl_bas h
  obtain ⟨b1, b2, b3, b4, b5, b6, b7, b8, b9, b10⟩ := id hB
  have hanew : ∀ S1 : Mem, gX11_anew 167 (hp S1 J T) = some (hp (stR S1 167 (nw S1)) J T) := fun S1 => c_anew
  cases ht with
  | false =>
    refine bth_q h (v := m1) (tr := nI 1) (cq_no ?_) (fun S1 hf => mq_no (X := up (nw S1) 11 (nI 1)) ?_ up_eq (nw_p S1 _)) n1_4
    · simp (disch := omega) only [gX10_askLeaves, fX10_askLeaves_0, fX10_askLeaves_1, fX10_askLeaves_4, fX10_askLeaves_7, fX10_askLeaves_9, fX10_askLeaves_12, fX10_askLeaves_13, fX10_askLeaves_21, fX10_askLeaves_24, fX10_askLeaves_32, fX10_askLeaves_35, fX10_askLeaves_41, fX10_askLeaves_46, fX10_askLeaves_51, fX10_askLeaves_54, fX10_askLeaves_57, lt_isO, kI_1, lt_f3, lt_f9, he_isO, kB_o, Option.bind_some, n35, n9, n19, n51, n59, nI_add, ix2, ix8, ix22, ix5, ↓reduceIte, lt_isO, c_lacksTable b1 b3 b5, b8, Bool.not_false, bI_t, n1_0, c_refuse]
    · have h14 : nw S1 14 = nI 0 := by rw [nw14, hf 167 (by decide)]; exact b7
      simp (disch := omega) only [gX11_askLeaves, fX11_askLeaves_0, fX11_askLeaves_1, fX11_askLeaves_4, fX11_askLeaves_11, fX11_askLeaves_13, fX11_askLeaves_16, fX11_askLeaves_17, fX11_askLeaves_18, fX11_askLeaves_21, fX11_askLeaves_26, fX11_askLeaves_31, fX11_askLeaves_33, fX11_askLeaves_36, mo_isO, mo_g14, kI_1, kB_o, Option.bind_some, n35, n9, n19, n51, n59, nI_add, ix2, ix8, ix22, ix5, ↓reduceIte, hanew, stR_eq, h14, n0_0, c_no, stR_stR]
  | true =>
    have hlk := c_lack1 (J := J) hB
    have hy := b9 rfl
    have hU : U < 5 := by have := hy.1.2.2.2.2.2.1; omega
    obtain ⟨S', k1, k2, k3⟩ := c_weigh (S := S) (S0 := S) (J := J) (T := T) b1 b2 hy rfl
    have hwh := c_whom (S := S') (J := J) (T := T) (t := T 0) (U := U) b1 (by rw [k3 (T 0) (by simp; omega), hy.2.1.1 6 (by omega)]; exact hy.1.2.2.2.2.1) (by omega)
    generalize hx : askF (S' 38 0) (lam (S' 38)) U = x at hwh
    have hxu : ∀ u, x = some u → u < U := fun u hu => by rw [hu] at hx; exact askF_lt hx
    have f0 : S' 0 = S 0 := k3 0 (by decide)
    have hne : ∀ j, j ∈ pM → j ≠ 25 ∧ j ≠ 26 ∧ j ≠ 37 ∧ j ≠ 38 ∧ j ≠ 39 := by decide
    have hm : ∀ S1, fr S S1 CL → ∃ S2, gX11_askOf 167 (hp (stR S1 167 (nw S1)) J T) = some (oi x, hp S2 J T) ∧ (∀ u, u < U → gX11_leavesOf 167 (nI u) (hp S2 J T) = some (lam (S' 38) u, hp S2 J T)) ∧ fr S1 S2 ML ∧ S2 167 11 = nI 0 ∧ ∀ j, j ∈ pM → S2 167 j = S1 167 j := fun S1 hf => by
      obtain ⟨S2, w1, w2, w3, w4, w5, w6, w7⟩ := c_seek (S := S) (S0 := stR S1 167 (nw S1)) (J := J) (T := T) (v1 := m1) hy (by rw [stR_ne (by omega)]; exact hf 170 (by decide)) (by rw [stR_ne (by omega)]; exact hf 172 (by decide))
      have e37 : S2 167 37 = S' 38 0 := by
        rw [w2, k2, wgF_01 (by omega)]
        exact (tie2 (v1 := m1) (2 ^ U) 0 (wg0 (S 38)) (m1, nI 0, nI 0, nI (2 ^ U - 1), z4 (stR S1 167 (nw S1) 180)) (by unfold wg0; rw [up_ne (by omega), up_ne (by omega), up_eq]) (by unfold wg0; rw [up_ne (by omega), up_eq])).1.symm
      have e180 : ∀ u, u < U → S2 180 u = wt (bt (S' 38 3)) u 16 := fun u hu => by
        have h16 := (pw_U U hU).2
        have z := sk_of (r := S 170) (Z := S 172) (P := P) (N := N) (F := F) (E := E) (v1 := m1) hU hu (2 ^ U) 0 (m1, nI 0, nI 0, nI (2 ^ U - 1), z4 (stR S1 167 (nw S1) 180)) (z4_at _ u (by omega))
        rw [w5, k2]
        refine Eq.trans z ?_
        rw [Nat.zero_add]
        have z2 := wt_x (p := bt (wgF (itr (wgS (S 170) (S 172) P N F U E) (2 ^ U) 0 (wg0 (S 38))) 3)) (u := u) (n := 2 ^ U) (fun j hj => by rw [fit_bt hU, decide_eq_false (by omega)]; rfl) (16 - 2 ^ U)
        rw [show 2 ^ U + (16 - 2 ^ U) = 16 by omega] at z2
        rw [z2]
        exact wt_cg _ (fun j hj => by rw [fit_bt hU, decide_eq_true hj, Bool.true_and])
      have hle : ∀ u, u < U → lem (S2 167 37) (S2 180) u = lam (S' 38) u := fun u hu => by
        unfold lem lam
        rw [e37, e180 u hu]
        exact mx_sw _ _
      have h170 : S2 170 = S 170 := by rw [w6 170 (by decide), stR_ne (by omega)]; exact hf 170 (by decide)
      have hl := l_askOf (S := S2) (J := J) (T := T) (U := U) (by rw [h170]; exact hy.1.2.2.2.2.1) (by omega)
      rw [askF_cg hle, e37, hx] at hl
      refine ⟨S2, ?_, fun u hu => by rw [c_leaves (by omega), hle u hu], fr_tr (fr_st (fr_rf S1 _) (by decide)) (fr_mo w6 (by decide)), by rw [w7 11 (by omega) (by omega) (by omega) (by omega) (by omega), stR_eq]; exact up_eq, fun j hj => ?_⟩
      · unfold gX11_askOf fX11_askOf_0 fX11_askOf_2
        rw [mo_isO, Option.bind_some, kI_n, w1, Option.bind_some]
        unfold fX11_askOf_5
        rw [kB_o, kI_0]
        exact hl
      · obtain ⟨a, b, c, d, e⟩ := hne j hj
        rw [w7 j a b c d e, stR_eq]
        exact nw_q S1 j hj
    cases x with
    | none =>
      refine bth_q h (v := oi none) (tr := nI 0) ⟨stR S' 0 (up (S' 0) 11 (nI 0)), ?_, fr_st (fr_mo k3 (by decide)) (by decide), by rw [stR_eq, up_eq], by rw [stR_eq, up_ne (by omega), f0]⟩ (fun S1 hf => ?_) n0_4
      · simp (disch := omega) only [gX10_askLeaves, fX10_askLeaves_0, fX10_askLeaves_1, fX10_askLeaves_4, fX10_askLeaves_7, fX10_askLeaves_9, fX10_askLeaves_12, fX10_askLeaves_13, fX10_askLeaves_21, fX10_askLeaves_24, fX10_askLeaves_32, fX10_askLeaves_35, fX10_askLeaves_41, fX10_askLeaves_46, fX10_askLeaves_51, fX10_askLeaves_54, fX10_askLeaves_57, lt_isO, kI_1, lt_f3, lt_f9, he_isO, kB_o, Option.bind_some, n35, n9, n19, n51, n59, nI_add, ix2, ix8, ix22, ix5, ↓reduceIte, lt_isO, he_isO, hlk, n0_0, k1, hwh, on_lt, c_answer]
      · have h14 : nw S1 14 = nI 1 := by rw [nw14, hf 167 (by decide)]; exact b7
        obtain ⟨S2, w1, w1', w2, w3, w4⟩ := hm S1 hf
        refine ⟨S2, ?_, w2, w3, w4⟩
        simp (disch := omega) only [gX11_askLeaves, fX11_askLeaves_0, fX11_askLeaves_1, fX11_askLeaves_4, fX11_askLeaves_11, fX11_askLeaves_13, fX11_askLeaves_16, fX11_askLeaves_17, fX11_askLeaves_18, fX11_askLeaves_21, fX11_askLeaves_26, fX11_askLeaves_31, fX11_askLeaves_33, fX11_askLeaves_36, mo_isO, mo_g14, kI_1, kB_o, Option.bind_some, n35, n9, n19, n51, n59, nI_add, ix2, ix8, ix22, ix5, ↓reduceIte, hanew, stR_eq, h14, n1_0, w1, on_lt]
    | some u =>
      have hu := hxu u rfl
      rw [oi_some] at hwh
      refine bth_q h (v := lam (S' 38) u) (tr := nI 0) ⟨stR S' 0 (up (S' 0) 11 (nI 0)), ?_, fr_st (fr_mo k3 (by decide)) (by decide), by rw [stR_eq, up_eq], by rw [stR_eq, up_ne (by omega), f0]⟩ (fun S1 hf => ?_) n0_4
      · simp (disch := omega) only [gX10_askLeaves, fX10_askLeaves_0, fX10_askLeaves_1, fX10_askLeaves_4, fX10_askLeaves_7, fX10_askLeaves_9, fX10_askLeaves_12, fX10_askLeaves_13, fX10_askLeaves_21, fX10_askLeaves_24, fX10_askLeaves_32, fX10_askLeaves_35, fX10_askLeaves_41, fX10_askLeaves_46, fX10_askLeaves_51, fX10_askLeaves_54, fX10_askLeaves_57, lt_isO, kI_1, lt_f3, lt_f9, he_isO, kB_o, Option.bind_some, n35, n9, n19, n51, n59, nI_add, ix2, ix8, ix22, ix5, ↓reduceIte, lt_isO, he_isO, hlk, n0_0, k1, hwh, nI_lt0, c_leftAtMost, c_answer]
      · have h14 : nw S1 14 = nI 1 := by rw [nw14, hf 167 (by decide)]; exact b7
        obtain ⟨S2, w1, w1', w2, w3, w4⟩ := hm S1 hf
        rw [oi_some] at w1
        have w1u := w1' u hu
        refine ⟨S2, ?_, w2, w3, w4⟩
        simp (disch := omega) only [gX11_askLeaves, fX11_askLeaves_0, fX11_askLeaves_1, fX11_askLeaves_4, fX11_askLeaves_11, fX11_askLeaves_13, fX11_askLeaves_16, fX11_askLeaves_17, fX11_askLeaves_18, fX11_askLeaves_21, fX11_askLeaves_26, fX11_askLeaves_31, fX11_askLeaves_33, fX11_askLeaves_36, mo_isO, mo_g14, kI_1, kB_o, Option.bind_some, n35, n9, n19, n51, n59, nI_add, ix2, ix8, ix22, ix5, ↓reduceIte, hanew, stR_eq, h14, n1_0, w1, nI_lt0, w1u]
end HE17

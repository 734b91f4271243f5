-- ACTS: images
set_option maxRecDepth 100000 in
set_option maxHeartbeats 400000 in
theorem in_pred {p : Int32} {v : Nat} (hv : v < 5000) : inB p (nI 0) (nI v - nI 1) = okB' p v := by
  rcases Nat.eq_zero_or_pos v with z | z
  · subst z
    rw [n0_s, ok0]
    unfold inB
    refine decide_eq_false (fun h => ?_)
    have h1 := h.1
    have h2 := h.2
    rw [Int32.lt_iff_toInt_lt] at h1 h2
    have e1 : (nI 0).toInt = 0 := by decide
    have e2 : m1.toInt = -1 := by decide
    omega
  · obtain ⟨w, rfl⟩ : ∃ w, v = w + 1 := ⟨v - 1, by omega⟩
    rw [sb1]
    have := inB_pred (p := p) (P := w + 1) (by omega) hv
    rwa [Nat.add_sub_cancel] at this
section ACT3
variable {S : Mem} {J : MeJ} {T : Nat → Nat}
set_option maxRecDepth 100000 in
set_option maxHeartbeats 400000 in
theorem q_image (h : Rl S T) : bth (fun h => gX10_image 0 h) (fun h => gX11_image 167 h) S J T := by
  obtain ⟨ht, P, N, F, U, E, hB, hF⟩ := Rl_bas2 h
  obtain ⟨b1, b2, b3, b4, b5, b6, b7, b8, b9, b10⟩ := id hB
  have hanew : ∀ S1 : Mem, gX11_anew 167 (hp S1 J T) = some (hp (stR S1 167 (nw S1)) J T) := fun S1 => c_anew
  cases ht with
  | false =>
    refine bth_q h (v := m1) (tr := nI 1) (cq_no ?_) (fun S1 hf => mq_no (X := up (nw S1) 11 (nI 1)) ?_ up_eq (nw_p S1 _)) n1_4
    · simp (disch := omega) only [gX10_image, fX10_image_0, fX10_image_1, fX10_image_4, fX10_image_7, fX10_image_9, fX10_image_12, fX10_image_13, fX10_image_21, fX10_image_24, fX10_image_29, fX10_image_31, fX10_image_34, fX10_image_37, fX10_image_39, fX10_image_42, lt_isO, kI_1, lt_f6, lt_f8, im_isO, kI_3, Option.bind_some, n35, n9, n19, n51, n59, nI_add, ix2, ix8, ix22, ix5, ↓reduceIte, lt_isO, c_lacksTable b1 b3 b5, b8, Bool.not_false, bI_t, n1_0, c_refuse]
    · have h14 : nw S1 14 = nI 0 := by rw [nw14, hf 167 (by decide)]; exact b7
      simp (disch := omega) only [gX11_image, fX11_image_0, fX11_image_1, fX11_image_4, fX11_image_11, fX11_image_13, fX11_image_16, fX11_image_17, fX11_image_25, fX11_image_27, fX11_image_30, fX11_image_31, fX11_image_49, fX11_image_52, mo_isO, mo_g14, kI_1, mo_g24, kI_3, mo_f19, kI_0, mo_f22, kB_22, mo_p24, Option.bind_some, n35, n9, n19, n51, n59, nI_add, ix2, ix8, ix22, ix5, ↓reduceIte, hanew, stR_eq, h14, n0_0, c_no, stR_stR]
  | true =>
    have hlk := c_lack1 (J := J) hB
    have hy := b9 rfl
    have hfd := hF rfl
    obtain ⟨u, x, w1, w2, w3, w4, w5, w6⟩ := hy.2.2.2.2.2.2.1
    obtain ⟨v, v1, v2, v3, v4⟩ := hy.2.2.2.2.2.2.2
    by_cases hv3 : v < 3
    · have hne : (v = 3) = False := eq_false (by omega)
      have hpl := plA_i v hv3
      have n139 : 139 ≠ 124 + 4 * v := by omega
      have n122 : 122 ≠ 124 + 4 * v := by omega
      have n0 : 0 ≠ 124 + 4 * v := by omega
      generalize hS2 : stR (stR (stR S (124 + 4 * v) (cpR (S 139) (S (124 + 4 * v)) 22)) 122 (up (S 122) 0 (nI (v + 1)))) 0 (up (S 0) 11 (nI 0)) = S2
      have gf : ∀ c, c ≠ 0 → c ≠ 122 → c ≠ 124 + 4 * v → S2 c = S c := fun c z1 z2 z3 => by rw [← hS2, stR_ne z1, stR_ne z2, stR_ne z3]
      have g0 : S2 0 = up (S 0) 11 (nI 0) := by rw [← hS2, stR_eq]
      have g122 : S2 122 = up (S 122) 0 (nI (v + 1)) := by rw [← hS2, stR_ne (by omega), stR_eq]
      have gx : S2 (124 + 4 * v) = cpR (S 139) (S (124 + 4 * v)) 22 := by rw [← hS2, stR_ne (by omega), stR_ne (by omega), stR_eq]
      have e167 : S2 167 = S 167 := gf 167 (by omega) (by omega) (by omega)
      have e174 : S2 174 = S 174 := gf 174 (by omega) (by omega) (by omega)
      have e176 : S2 176 = S 176 := gf 176 (by omega) (by omega) (by omega)
      have e177 : S2 177 = S 177 := gf 177 (by omega) (by omega) (by omega)
      have h14 : nw S2 14 = nI 1 := by rw [nw14, e167]; exact b7
      have h24 : nw S2 24 = nI v := by rw [nw_q S2 24 (by decide), e167]; exact v3
      generalize hS4 : stR (stR (stR S2 167 (nw S2)) 177 (cpA (S 174) (S 177) 0 (22 * v) 22)) 167 (up (nw S2) 24 (nI (v + 1))) = S4
      have q177 : S4 177 = cpA (S 174) (S 177) 0 (22 * v) 22 := by rw [← hS4, stR_ne (by omega), stR_eq]
      have q167 : S4 167 = up (nw S2) 24 (nI (v + 1)) := by rw [← hS4, stR_eq]
      have qf : ∀ c, c ≠ 167 → c ≠ 177 → S4 c = S2 c := fun c z1 z2 => by rw [← hS4, stR_ne z1, stR_ne z2, stR_ne z1]
      have q176 : ∀ i, rw22 S4 176 i = rw22 S 176 i := fun i => by funext j; unfold rw22; rw [qf 176 (by omega) (by omega), e176]
      have qold : ∀ i, i < v → agR (rw22 S4 177 i) (rw22 S 177 i) P N := fun i hi => ag_22 b5 b6 (fun j hj => by
        unfold rw22
        rw [q177]
        unfold cpA
        rw [if_neg (by omega)])
      have qnew : agR (rw22 S4 177 v) (S 174) P N := ag_22 b5 b6 (fun j hj => by
        unfold rw22
        rw [q177]
        unfold cpA
        rw [if_pos (by omega)]
        exact congrArg (S 174) (by omega))
      have hpj : ∀ j, j ≠ 0 → j ≠ 11 → j ≠ 24 → S4 167 j = S 167 j := fun j z1 z2 z3 => by
        rw [q167, up_ne z3]
        unfold nw
        rw [up_ne z2, up_ne z1, e167]
      refine ⟨nI v, S2, S4, J, J, T, ?_, ?_, gen_Rl h b7 hy (fun c hc => ?_) ⟨u, x, w1, w2, ?_, ?_, ?_, fun i hi => ?_⟩ ⟨v + 1, by omega, ?_, ?_, fun i hi => ?_⟩ ?_ ?_ ⟨?_, fun u' hu' hu2 i hi => ?_, fun v' hv' hv2 i hi => ?_⟩ ?_ ?_ ?_ (fun j hj => ?_)⟩
      · rw [← hS2]
        simp (disch := omega) only [gX10_image, fX10_image_0, fX10_image_1, fX10_image_4, fX10_image_7, fX10_image_9, fX10_image_12, fX10_image_13, fX10_image_21, fX10_image_24, fX10_image_29, fX10_image_31, fX10_image_34, fX10_image_37, fX10_image_39, fX10_image_42, lt_isO, kI_1, lt_f6, lt_f8, im_isO, kI_3, Option.bind_some, n35, n9, n19, n51, n59, nI_add, ix2, ix8, ix22, ix5, ↓reduceIte, gX5_keep, fX5_keep_0, fX5_keep_8, fX5_keep_10, fX5_keep_20, fX5_keep_23, im_g0, kI_3, kI_n, im_f1, im_r1, pl_isO hpl, kI_1, im_p0, Option.bind_some, n35, n9, n19, n51, n59, nI_add, ix2, ix8, ix22, ix5, ↓reduceIte, lt_isO, im_isO, lt_f6, lt_f8, hlk, n0_0, v2, lt_eq, hv3, c_copy hpl plA_139 n139, stR_ne n122, stR_ne n0, stR_ne (show 0 ≠ 122 by omega), stS_R, stR_stR, stR_eq, up_eq, up_up, sb1, nI_lt0, c_answer]
      · rw [← hS4]
        have hc := c_cpy (S := stR S2 167 (nw S2)) (J := J) (T := T) (c1 := 174) (c2 := 177) (n1 := 22) (n2 := 66) (i0 := 0) (i1 := 22 * v) (n := 22) rfl rfl (by omega) (by omega) (by omega) (by omega) (by omega)
        rw [stR_ne (show 174 ≠ 167 by omega), stR_ne (show 177 ≠ 167 by omega), e174, e177] at hc
        simp (disch := omega) only [gX11_image, fX11_image_0, fX11_image_1, fX11_image_4, fX11_image_11, fX11_image_13, fX11_image_16, fX11_image_17, fX11_image_25, fX11_image_27, fX11_image_30, fX11_image_31, fX11_image_49, fX11_image_52, mo_isO, mo_g14, kI_1, mo_g24, kI_3, mo_f19, kI_0, mo_f22, kB_22, mo_p24, Option.bind_some, n35, n9, n19, n51, n59, nI_add, ix2, ix8, ix22, ix5, ↓reduceIte, hanew, h14, h24, n1_0, eq_eq, hne, hc, stR_eq, stR_ne (show 167 ≠ 177 by omega), stS_R, stR_stR, up_eq, sb1]
      · have z : ∀ c, c ∈ [1, 2, 168, 170, 172, 143, 155] → c ≠ 167 ∧ c ≠ 177 ∧ c ≠ 0 ∧ c ≠ 122 ∧ (c < 124 ∨ 135 < c) := by decide
        obtain ⟨z1, z2, z3, z4, z5⟩ := z c hc
        rw [qf c z1 z2, gf c z3 z4 (by omega)]
      · rw [qf 56 (by omega) (by omega), gf 56 (by omega) (by omega) (by omega)]; exact w3
      · rw [qf 56 (by omega) (by omega), gf 56 (by omega) (by omega) (by omega)]; exact w4
      · rw [hpj 23 (by omega) (by omega) (by omega)]; exact w5
      · have hlt := Nat.mod_lt (x + 16 - u + i) (show 0 < 16 by omega)
        rw [qf _ (by omega) (by omega), gf _ (by omega) (by omega) (by omega), q176]
        exact w6 i hi
      · rw [qf 122 (by omega) (by omega), g122, up_eq]
      · rw [q167, up_eq]
      · rw [qf _ (by omega) (by omega)]
        by_cases hiv : i < v
        · rw [gf _ (by omega) (by omega) (by omega)]
          exact ⟨agR_tr (v4 i hiv).1 (agR_sy (qold i hiv)), Inv_ag (qold i hiv) (v4 i hiv).2⟩
        · obtain rfl : i = v := by omega
          rw [gx]
          exact ⟨agR_cp b5 b6 (agR_tr hy.2.2.2.2.1 (agR_sy qnew)), Inv_ag qnew hy.2.2.2.2.2.1⟩
      · rw [qf 139 (by omega) (by omega), gf 139 (by omega) (by omega) (by omega), qf 174 (by omega) (by omega), e174]
        exact hy.2.2.2.2.1
      · rw [qf 174 (by omega) (by omega), e174]
        exact hy.2.2.2.2.2.1
      · rw [qf 174 (by omega) (by omega), e174]
        exact hfd.1
      · rw [hpj 23 (by omega) (by omega) (by omega)] at hu2
        rw [q176]
        exact hfd.2.1 u' hu' hu2 i hi
      · rw [q167, up_eq, eq_eq (by omega) (by omega)] at hv2
        by_cases hiv : i < v
        · exact Fdd_ag (qold i hiv) (hfd.2.2 v v1 v3 i hiv)
        · obtain rfl : i = v := by omega
          exact Fdd_ag qnew hfd.1
      · rw [qf 0 (by omega) (by omega), g0, up_eq, q167, up_ne (by omega)]
        exact up_eq.symm
      · rw [q167, up_ne (by omega)]
        show up _ 11 (nI 0) 11 ≠ nI 4
        rw [up_eq]
        decide
      · rw [qf 0 (by omega) (by omega), g0, up_ne (by omega)]
      · have z : ∀ j, j ∈ [2, 9, 14] → j ≠ 0 ∧ j ≠ 11 ∧ j ≠ 24 := by decide
        obtain ⟨z1, z2, z3⟩ := z j hj
        exact hpj j z1 z2 z3
    · have e3 : v = 3 := by omega
      refine bth_q h (v := m1) (tr := nI 3) (cq_no ?_) (fun S1 hf => mq_no (X := up (nw S1) 11 (nI 3)) ?_ up_eq (nw_p S1 _)) (by decide)
      · simp (disch := omega) only [gX10_image, fX10_image_0, fX10_image_1, fX10_image_4, fX10_image_7, fX10_image_9, fX10_image_12, fX10_image_13, fX10_image_21, fX10_image_24, fX10_image_29, fX10_image_31, fX10_image_34, fX10_image_37, fX10_image_39, fX10_image_42, lt_isO, kI_1, lt_f6, lt_f8, im_isO, kI_3, Option.bind_some, n35, n9, n19, n51, n59, nI_add, ix2, ix8, ix22, ix5, ↓reduceIte, gX5_keep, fX5_keep_0, fX5_keep_8, fX5_keep_10, fX5_keep_20, fX5_keep_23, im_g0, kI_3, kI_n, im_f1, im_r1, kI_1, im_p0, Option.bind_some, n35, n9, n19, n51, n59, nI_add, ix2, ix8, ix22, ix5, ↓reduceIte, lt_isO, im_isO, lt_f6, lt_f8, hlk, n0_0, v2, lt_eq, hv3, mn_lt, c_refuse]
      · have h14 : nw S1 14 = nI 1 := by rw [nw14, hf 167 (by decide)]; exact b7
        have h24 : nw S1 24 = nI 3 := by rw [nw_q S1 24 (by decide), hf 167 (by decide), v3, e3]
        simp (disch := omega) only [gX11_image, fX11_image_0, fX11_image_1, fX11_image_4, fX11_image_11, fX11_image_13, fX11_image_16, fX11_image_17, fX11_image_25, fX11_image_27, fX11_image_30, fX11_image_31, fX11_image_49, fX11_image_52, mo_isO, mo_g14, kI_1, mo_g24, kI_3, mo_f19, kI_0, mo_f22, kB_22, mo_p24, Option.bind_some, n35, n9, n19, n51, n59, nI_add, ix2, ix8, ix22, ix5, ↓reduceIte, hanew, stR_eq, h14, h24, n1_0, c_no, stR_stR]
set_option maxRecDepth 100000 in
set_option maxHeartbeats 400000 in
theorem q_back (h : Rl S T) (p : Int32) : bth (fun h => gX10_back 0 p h) (fun h => gX11_back 167 p h) S J T := by
  have hanew : ∀ S1 : Mem, gX11_anew 167 (hp S1 J T) = some (hp (stR S1 167 (nw S1)) J T) := fun S1 => c_anew
  have hno : ∀ v, v ≤ 3 → S 122 0 = nI v → S 167 24 = nI v → okB' p v = false → bth (fun h => gX10_back 0 p h) (fun h => gX11_back 167 p h) S J T := fun v hv z1 z2 z3 => by
    refine bth_q h (v := nI 0) (tr := nI 1) (cq_no ?_) (fun S1 hf => mq_no (X := up (nw S1) 11 (nI 1)) ?_ up_eq (nw_p S1 _)) n1_4
    · unfold okB' at z3
      have z4 := of_decide_eq_false z3
      by_cases hp0 : p < 0
      · simp (disch := omega) only [gX10_back, fX10_back_0, fX10_back_9, fX10_back_12, fX10_back_17, fX10_back_21, fX10_back_24, fX10_back_29, fX10_back_33, fX10_back_34, lt_f6, lt_f8, im_isO, lt_f5, hi_isO, kI_0, kI_1, lt_p11, Option.bind_some, n35, n9, n19, n51, n59, nI_add, ix2, ix8, ix22, ix5, ↓reduceIte, gX5_show, fX5_show_0, fX5_show_4, fX5_show_12, fX5_show_14, fX5_show_21, fX5_show_24, im_g0, kI_0, im_f1, im_r1, kI_1, Option.bind_some, n35, n9, n19, n51, n59, nI_add, ix2, ix8, ix22, ix5, ↓reduceIte, im_isO, hp0, n0_0, true_or, stS_R]
      · have hp1 : ¬ p < nI v := fun z => z4 ⟨hp0, z⟩
        simp (disch := omega) only [gX10_back, fX10_back_0, fX10_back_9, fX10_back_12, fX10_back_17, fX10_back_21, fX10_back_24, fX10_back_29, fX10_back_33, fX10_back_34, lt_f6, lt_f8, im_isO, lt_f5, hi_isO, kI_0, kI_1, lt_p11, Option.bind_some, n35, n9, n19, n51, n59, nI_add, ix2, ix8, ix22, ix5, ↓reduceIte, gX5_show, fX5_show_0, fX5_show_4, fX5_show_12, fX5_show_14, fX5_show_21, fX5_show_24, im_g0, kI_0, im_f1, im_r1, kI_1, Option.bind_some, n35, n9, n19, n51, n59, nI_add, ix2, ix8, ix22, ix5, ↓reduceIte, im_isO, hp0, z1, hp1, n0_0, true_or, stS_R]
    · have h24 : nw S1 24 = nI v := by rw [nw_q S1 24 (by decide), hf 167 (by decide)]; exact z2
      simp (disch := omega) only [gX11_back, fX11_back_0, fX11_back_1, fX11_back_4, fX11_back_12, fX11_back_15, fX11_back_18, fX11_back_20, fX11_back_23, fX11_back_24, fX11_back_39, fX11_back_42, mo_isO, kI_0, mo_g24, kI_1, mo_f22, kB_22, mo_f19, mo_p23, Option.bind_some, n35, n9, n19, n51, n59, nI_add, ix2, ix8, ix22, ix5, ↓reduceIte, gX11_isNot, fX11_isNot_0, mo_p11, kI_0, Option.bind_some, n35, n9, n19, n51, n59, nI_add, ix2, ix8, ix22, ix5, ↓reduceIte, hanew, stR_eq, h24, c_in, in_pred, z3, bI_f, n0_0, true_or, stS_R, stR_stR]
  obtain ⟨ht, P, N, F, U, E, hB, hF⟩ := Rl_bas2 h
  obtain ⟨b1, b2, b3, b4, b5, b6, b7, b8, b9, b10⟩ := id hB
  cases ht with
  | false =>
    rcases h.2.2.2 with ⟨z, _⟩ | ⟨_, z⟩
    · rw [b7] at z; exact absurd z (by decide)
    · exact hno 0 (by omega) z.2.2.2.2.1 z.2.2.2.2.2.2 (ok0 p)
  | true =>
    have hy := b9 rfl
    have hfd := hF rfl
    obtain ⟨v, v1, v2, v3, v4⟩ := hy.2.2.2.2.2.2.2
    cases hok : okB' p v with
    | false => exact hno v v1 v2 v3 hok
    | true =>
      obtain ⟨i, hi, rfl⟩ := okB_t (by omega) hok
      have hpl := plA_i i (by omega)
      have n139 : 124 + 4 * i ≠ 139 := by omega
      generalize hS2 : stR (stR (stR S 139 (cpR (S (124 + 4 * i)) (S 139) 22)) 56 (up (up (S 56) 0 (nI 0)) 1 (nI 0))) 0 (up (S 0) 11 (nI 0)) = S2
      have gf : ∀ c, c ≠ 0 → c ≠ 56 → c ≠ 139 → S2 c = S c := fun c z1 z2 z3 => by rw [← hS2, stR_ne z1, stR_ne z2, stR_ne z3]
      have g0 : S2 0 = up (S 0) 11 (nI 0) := by rw [← hS2, stR_eq]
      have g56 : S2 56 = up (up (S 56) 0 (nI 0)) 1 (nI 0) := by rw [← hS2, stR_ne (by omega), stR_eq]
      have g139 : S2 139 = cpR (S (124 + 4 * i)) (S 139) 22 := by rw [← hS2, stR_ne (by omega), stR_ne (by omega), stR_eq]
      have e167 : S2 167 = S 167 := gf 167 (by omega) (by omega) (by omega)
      have e174 : S2 174 = S 174 := gf 174 (by omega) (by omega) (by omega)
      have e177 : S2 177 = S 177 := gf 177 (by omega) (by omega) (by omega)
      have h24 : nw S2 24 = nI v := by rw [nw_q S2 24 (by decide), e167]; exact v3
      generalize hS4 : stR (stR (stR S2 167 (nw S2)) 174 (cpA (S 177) (S 174) (22 * i) 0 22)) 167 (up (nw S2) 23 (nI 0)) = S4
      have q174 : S4 174 = cpA (S 177) (S 174) (22 * i) 0 22 := by rw [← hS4, stR_ne (by omega), stR_eq]
      have q167 : S4 167 = up (nw S2) 23 (nI 0) := by rw [← hS4, stR_eq]
      have qf : ∀ c, c ≠ 167 → c ≠ 174 → S4 c = S2 c := fun c z1 z2 => by rw [← hS4, stR_ne z1, stR_ne z2, stR_ne z1]
      have q177 : ∀ i, rw22 S4 177 i = rw22 S 177 i := fun i => by funext j; unfold rw22; rw [qf 177 (by omega) (by omega), e177]
      have hrow : agR (S4 174) (rw22 S 177 i) P N := ag_22 b5 b6 (fun j hj => by
        rw [q174]
        unfold cpA rw22
        rw [if_pos (by omega), Nat.sub_zero])
      have hpj : ∀ j, j ≠ 0 → j ≠ 11 → j ≠ 23 → S4 167 j = S 167 j := fun j z1 z2 z3 => by
        rw [q167, up_ne z3]
        unfold nw
        rw [up_ne z2, up_ne z1, e167]
      have hok2 := id hok
      unfold okB' at hok2
      have hok3 := of_decide_eq_true hok2
      have k1 : (nI i < 0) = False := eq_false hok3.1
      have k2 : (nI i < nI v) = True := eq_true hok3.2
      refine ⟨nI 1, S2, S4, J, J, T, ?_, ?_, gen_Rl h b7 hy (fun c hc => ?_) ⟨0, 0, by omega, by omega, ?_, ?_, ?_, fun i hi => by omega⟩ ⟨v, v1, ?_, ?_, fun i hi => ?_⟩ ?_ ?_ ⟨?_, fun u' hu' hu2 i hi => ?_, fun v' hv' hv2 i hi => ?_⟩ ?_ ?_ ?_ (fun j hj => ?_)⟩
      · rw [← hS2]
        simp (disch := omega) only [gX10_back, fX10_back_0, fX10_back_9, fX10_back_12, fX10_back_17, fX10_back_21, fX10_back_24, fX10_back_29, fX10_back_33, fX10_back_34, lt_f6, lt_f8, im_isO, lt_f5, hi_isO, kI_0, kI_1, lt_p11, Option.bind_some, n35, n9, n19, n51, n59, nI_add, ix2, ix8, ix22, ix5, ↓reduceIte, gX5_show, fX5_show_0, fX5_show_4, fX5_show_12, fX5_show_14, fX5_show_21, fX5_show_24, im_g0, kI_0, im_f1, im_r1, pl_isO plA_139, kI_1, Option.bind_some, n35, n9, n19, n51, n59, nI_add, ix2, ix8, ix22, ix5, ↓reduceIte, gX4_forget, fX4_forget_0, kI_0, hi_p0, hi_p1, Option.bind_some, n35, n9, n19, n51, n59, nI_add, ix2, ix8, ix22, ix5, ↓reduceIte, im_isO, hi_isO, k1, v2, k2, c_copy plA_139 hpl n139, n1_0, n11, z1_z, or_true, stS_R, stR_stR, stR_eq, stR_ne (show 56 ≠ 139 by omega), stR_ne (show 0 ≠ 56 by omega), stR_ne (show 0 ≠ 139 by omega)]
      · rw [← hS4]
        have hc := c_cpy (S := stR S2 167 (nw S2)) (J := J) (T := T) (c1 := 177) (c2 := 174) (n1 := 66) (n2 := 22) (i0 := 22 * i) (i1 := 0) (n := 22) rfl rfl (by omega) (by omega) (by omega) (by omega) (by omega)
        rw [stR_ne (show 174 ≠ 167 by omega), stR_ne (show 177 ≠ 167 by omega), e174, e177] at hc
        simp (disch := omega) only [gX11_back, fX11_back_0, fX11_back_1, fX11_back_4, fX11_back_12, fX11_back_15, fX11_back_18, fX11_back_20, fX11_back_23, fX11_back_24, fX11_back_39, fX11_back_42, mo_isO, kI_0, mo_g24, kI_1, mo_f22, kB_22, mo_f19, mo_p23, Option.bind_some, n35, n9, n19, n51, n59, nI_add, ix2, ix8, ix22, ix5, ↓reduceIte, hanew, stR_eq, h24, c_in, in_pred, hok, bI_t, n1_0, n11, or_true, hc, z1_z, stR_ne (show 167 ≠ 174 by omega), stS_R, stR_stR]
      · have z : ∀ c, c ∈ [1, 2, 168, 170, 172, 143, 155] → c ≠ 167 ∧ c ≠ 174 ∧ c ≠ 0 ∧ c ≠ 56 ∧ c ≠ 139 := by decide
        obtain ⟨z1, z2, z3, z4, z5⟩ := z c hc
        rw [qf c z1 z2, gf c z3 z4 z5]
      · rw [qf 56 (by omega) (by omega), g56, up_ne (by omega), up_eq]
      · rw [qf 56 (by omega) (by omega), g56, up_eq]
      · rw [q167, up_eq]
      · rw [qf 122 (by omega) (by omega), gf 122 (by omega) (by omega) (by omega)]; exact v2
      · rw [hpj 24 (by omega) (by omega) (by omega)]; exact v3
      · rw [qf _ (by omega) (by omega), gf _ (by omega) (by omega) (by omega), q177]
        exact v4 i hi
      · rw [qf 139 (by omega) (by omega), g139]
        exact agR_cp b5 b6 (agR_tr (v4 i hi).1 (agR_sy hrow))
      · exact Inv_ag hrow (v4 i hi).2
      · exact Fdd_ag hrow (hfd.2.2 v v1 v3 i hi)
      · rw [q167, up_eq, eq_eq (by omega) (by omega)] at hu2
        omega
      · rw [hpj 24 (by omega) (by omega) (by omega)] at hv2
        rw [q177]
        exact hfd.2.2 v' hv' hv2 i hi
      · rw [qf 0 (by omega) (by omega), g0, up_eq, q167, up_ne (by omega)]
        exact up_eq.symm
      · rw [q167, up_ne (by omega)]
        show up _ 11 (nI 0) 11 ≠ nI 4
        rw [up_eq]
        decide
      · rw [qf 0 (by omega) (by omega), g0, up_ne (by omega)]
      · have z : ∀ j, j ∈ [2, 9, 14] → j ≠ 0 ∧ j ≠ 11 ∧ j ≠ 23 := by decide
        obtain ⟨z1, z2, z3⟩ := z j hj
        exact hpj j z1 z2 z3
end ACT3

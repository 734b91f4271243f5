-- HEARSAY: fits, could, asked
section HE12
variable {S S1 : Mem} {J : MeJ} {T : Nat → Nat} {t P N F U E : Nat} {ht : Bool}
set_option maxRecDepth 100000 in
set_option maxHeartbeats 400000 in
theorem q_fits (h : Rl S T) : bth (fun h => gX10_fits 0 h) (fun h => gX11_fits 167 h) S J T := by
  obtain ⟨ht, P, N, F, U, E, hB⟩ := Rl_bas h
  obtain ⟨b1, b2, b3, b4, b5, b6, b7, b8, b9, b10⟩ := id hB
  have hanew : ∀ S1 : Mem, gX11_anew 167 (hp S1 J T) = some (hp (stR S1 167 (nw S1)) J T) := fun S1 => c_anew
  cases ht with
  | false =>
    refine bth_q h (v := m1) (tr := nI 1) (cq_no ?_) (fun S1 hf => mq_no (X := up (nw S1) 11 (nI 1)) ?_ up_eq (nw_p S1 _)) n1_4
    · simp (disch := omega) only [gX10_fits, fX10_fits_0, fX10_fits_1, fX10_fits_4, fX10_fits_7, fX10_fits_9, fX10_fits_12, fX10_fits_13, fX10_fits_21, fX10_fits_24, fX10_fits_32, fX10_fits_35, lt_isO, kI_1, lt_f3, lt_f9, he_isO, he_g0, Option.bind_some, n35, n9, n19, n51, n59, nI_add, ix2, ix8, ix22, ix5, ↓reduceIte, lt_isO, c_lacksTable b1 b3 b5, b8, Bool.not_false, bI_t, n1_0, c_refuse]
    · have h14 : nw S1 14 = nI 0 := by rw [nw14, hf 167 (by decide)]; exact b7
      simp (disch := omega) only [gX11_fits, fX11_fits_0, fX11_fits_1, fX11_fits_4, fX11_fits_11, fX11_fits_13, fX11_fits_16, fX11_fits_17, fX11_fits_19, fX11_fits_22, mo_isO, mo_g14, kI_1, kI_n, mo_g37, Option.bind_some, n35, n9, n19, n51, n59, nI_add, ix2, ix8, ix22, ix5, ↓reduceIte, hanew, stR_eq, h14, n0_0, c_no, stR_stR]
  | true =>
    have hlk := c_lack1 (J := J) hB
    have hy := b9 rfl
    obtain ⟨S', k1, k2, k3⟩ := c_weigh (S := S) (S0 := S) (J := J) (T := T) b1 b2 hy rfl
    refine bth_q h (v := S' 38 0) (tr := nI 0) ?_ (fun S1 hf => ?_) n0_4
    · have f0 : S' 0 = S 0 := k3 0 (by decide)
      refine ⟨stR S' 0 (up (S' 0) 11 (nI 0)), ?_, fr_st (fr_mo k3 (by decide)) (by decide), by rw [stR_eq, up_eq], by rw [stR_eq, up_ne (by omega), f0]⟩
      simp (disch := omega) only [gX10_fits, fX10_fits_0, fX10_fits_1, fX10_fits_4, fX10_fits_7, fX10_fits_9, fX10_fits_12, fX10_fits_13, fX10_fits_21, fX10_fits_24, fX10_fits_32, fX10_fits_35, lt_isO, kI_1, lt_f3, lt_f9, he_isO, he_g0, Option.bind_some, n35, n9, n19, n51, n59, nI_add, ix2, ix8, ix22, ix5, ↓reduceIte, lt_isO, he_isO, hlk, n0_0, k1, he_g0, he_g1, c_answer]
    · have h14 : nw S1 14 = nI 1 := by rw [nw14, hf 167 (by decide)]; exact b7
      obtain ⟨S2, w1, w2, w3, w4, w5, w6, w7⟩ := c_seek (S := S) (S0 := stR S1 167 (nw S1)) (J := J) (T := T) (v1 := m1) hy (by rw [stR_ne (by omega)]; exact hf 170 (by decide)) (by rw [stR_ne (by omega)]; exact hf 172 (by decide))
      have e : S2 167 37 = S' 38 0 := by
        rw [w2, k2, wgF_01 (by omega)]
        exact (tie2 (v1 := m1) (2 ^ U) 0 (wg0 (S 38)) (m1, nI 0, nI 0, nI (2 ^ U - 1), z4 (stR S1 167 (nw S1) 180)) (by unfold wg0; rw [up_ne (by omega), up_ne (by omega), up_eq]) (by unfold wg0; rw [up_ne (by omega), up_eq])).1.symm
      refine ⟨S2, ?_, fr_tr (fr_st (fr_rf S1 _) (by decide)) (fr_mo w6 (by decide)), by rw [w7 11 (by omega) (by omega) (by omega) (by omega) (by omega), stR_eq]; exact up_eq, fun j hj => ?_⟩
      · rw [← e]
        simp (disch := omega) only [gX11_fits, fX11_fits_0, fX11_fits_1, fX11_fits_4, fX11_fits_11, fX11_fits_13, fX11_fits_16, fX11_fits_17, fX11_fits_19, fX11_fits_22, mo_isO, mo_g14, kI_1, kI_n, mo_g37, Option.bind_some, n35, n9, n19, n51, n59, nI_add, ix2, ix8, ix22, ix5, ↓reduceIte, hanew, stR_eq, h14, n1_0, w1]
      · have hne : ∀ j, j ∈ pM → j ≠ 25 ∧ j ≠ 26 ∧ j ≠ 37 ∧ j ≠ 38 ∧ j ≠ 39 := by decide
        obtain ⟨a, b, c, d, e⟩ := hne j hj
        rw [w7 j a b c d e, stR_eq]
        exact nw_q S1 j hj
set_option maxRecDepth 100000 in
set_option maxHeartbeats 400000 in
theorem q_could (h : Rl S T) : bth (fun h => gX10_could 0 h) (fun h => gX11_could 167 h) S J T := by
  obtain ⟨ht, P, N, F, U, E, hB⟩ := Rl_bas h
  obtain ⟨b1, b2, b3, b4, b5, b6, b7, b8, b9, b10⟩ := id hB
  have hanew : ∀ S1 : Mem, gX11_anew 167 (hp S1 J T) = some (hp (stR S1 167 (nw S1)) J T) := fun S1 => c_anew
  cases ht with
  | false =>
    refine bth_q h (v := m1) (tr := nI 1) (cq_no ?_) (fun S1 hf => mq_no (X := up (nw S1) 11 (nI 1)) ?_ up_eq (nw_p S1 _)) n1_4
    · simp (disch := omega) only [gX10_could, fX10_could_0, fX10_could_1, fX10_could_4, fX10_could_7, fX10_could_9, fX10_could_12, fX10_could_13, fX10_could_21, fX10_could_24, fX10_could_32, fX10_could_35, lt_isO, kI_1, lt_f3, lt_f9, he_isO, he_g1, Option.bind_some, n35, n9, n19, n51, n59, nI_add, ix2, ix8, ix22, ix5, ↓reduceIte, lt_isO, c_lacksTable b1 b3 b5, b8, Bool.not_false, bI_t, n1_0, c_refuse]
    · have h14 : nw S1 14 = nI 0 := by rw [nw14, hf 167 (by decide)]; exact b7
      simp (disch := omega) only [gX11_could, fX11_could_0, fX11_could_1, fX11_could_4, fX11_could_11, fX11_could_13, fX11_could_16, fX11_could_17, fX11_could_19, fX11_could_22, mo_isO, mo_g14, kI_1, kI_n, mo_g38, Option.bind_some, n35, n9, n19, n51, n59, nI_add, ix2, ix8, ix22, ix5, ↓reduceIte, hanew, stR_eq, h14, n0_0, c_no, stR_stR]
  | true =>
    have hlk := c_lack1 (J := J) hB
    have hy := b9 rfl
    obtain ⟨S', k1, k2, k3⟩ := c_weigh (S := S) (S0 := S) (J := J) (T := T) b1 b2 hy rfl
    refine bth_q h (v := S' 38 1) (tr := nI 0) ?_ (fun S1 hf => ?_) n0_4
    · have f0 : S' 0 = S 0 := k3 0 (by decide)
      refine ⟨stR S' 0 (up (S' 0) 11 (nI 0)), ?_, fr_st (fr_mo k3 (by decide)) (by decide), by rw [stR_eq, up_eq], by rw [stR_eq, up_ne (by omega), f0]⟩
      simp (disch := omega) only [gX10_could, fX10_could_0, fX10_could_1, fX10_could_4, fX10_could_7, fX10_could_9, fX10_could_12, fX10_could_13, fX10_could_21, fX10_could_24, fX10_could_32, fX10_could_35, lt_isO, kI_1, lt_f3, lt_f9, he_isO, he_g1, Option.bind_some, n35, n9, n19, n51, n59, nI_add, ix2, ix8, ix22, ix5, ↓reduceIte, lt_isO, he_isO, hlk, n0_0, k1, he_g0, he_g1, c_answer]
    · have h14 : nw S1 14 = nI 1 := by rw [nw14, hf 167 (by decide)]; exact b7
      obtain ⟨S2, w1, w2, w3, w4, w5, w6, w7⟩ := c_seek (S := S) (S0 := stR S1 167 (nw S1)) (J := J) (T := T) (v1 := m1) hy (by rw [stR_ne (by omega)]; exact hf 170 (by decide)) (by rw [stR_ne (by omega)]; exact hf 172 (by decide))
      have e : S2 167 38 = S' 38 1 := by
        rw [w3, k2, wgF_01 (by omega)]
        exact (tie2 (v1 := m1) (2 ^ U) 0 (wg0 (S 38)) (m1, nI 0, nI 0, nI (2 ^ U - 1), z4 (stR S1 167 (nw S1) 180)) (by unfold wg0; rw [up_ne (by omega), up_ne (by omega), up_eq]) (by unfold wg0; rw [up_ne (by omega), up_eq])).2.symm
      refine ⟨S2, ?_, fr_tr (fr_st (fr_rf S1 _) (by decide)) (fr_mo w6 (by decide)), by rw [w7 11 (by omega) (by omega) (by omega) (by omega) (by omega), stR_eq]; exact up_eq, fun j hj => ?_⟩
      · rw [← e]
        simp (disch := omega) only [gX11_could, fX11_could_0, fX11_could_1, fX11_could_4, fX11_could_11, fX11_could_13, fX11_could_16, fX11_could_17, fX11_could_19, fX11_could_22, mo_isO, mo_g14, kI_1, kI_n, mo_g38, Option.bind_some, n35, n9, n19, n51, n59, nI_add, ix2, ix8, ix22, ix5, ↓reduceIte, hanew, stR_eq, h14, n1_0, w1]
      · have hne : ∀ j, j ∈ pM → j ≠ 25 ∧ j ≠ 26 ∧ j ≠ 37 ∧ j ≠ 38 ∧ j ≠ 39 := by decide
        obtain ⟨a, b, c, d, e⟩ := hne j hj
        rw [w7 j a b c d e, stR_eq]
        exact nw_q S1 j hj
end HE12

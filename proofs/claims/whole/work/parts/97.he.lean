-- HEARSAY: surely, asked
section HE13
variable {S S1 : Mem} {J : MeJ} {T : Nat → Nat} {t P N F U E : Nat} {ht : Bool}
set_option maxRecDepth 100000 in
set_option maxHeartbeats 400000 in
theorem q_surely (h : Rl S T) : bth (fun h => gX10_surely 0 h) (fun h => gX11_surely 167 h) S J T := by
  obtain ⟨ht, P, N, F, U, E, hB⟩ := Rl_bas h
  obtain ⟨b1, b2, b3, b4, b5, b6, b7, b8, b9, b10⟩ := id hB
  have hanew : ∀ S1 : Mem, gX11_anew 167 (hp S1 J T) = some (hp (stR S1 167 (nw S1)) J T) := fun S1 => c_anew
  cases ht with
  | false =>
    refine bth_q h (v := m1) (tr := nI 1) (cq_no ?_) (fun S1 hf => mq_no (X := up (nw S1) 11 (nI 1)) ?_ up_eq (nw_p S1 _)) n1_4
    · simp (disch := omega) only [gX10_surely, fX10_surely_0, fX10_surely_1, fX10_surely_4, fX10_surely_7, fX10_surely_9, fX10_surely_12, fX10_surely_13, fX10_surely_21, fX10_surely_24, fX10_surely_32, fX10_surely_35, lt_isO, kI_1, lt_f3, lt_f9, he_isO, he_g2, Option.bind_some, n35, n9, n19, n51, n59, nI_add, ix2, ix8, ix22, ix5, ↓reduceIte, lt_isO, c_lacksTable b1 b3 b5, b8, Bool.not_false, bI_t, n1_0, c_refuse]
    · have h14 : nw S1 14 = nI 0 := by rw [nw14, hf 167 (by decide)]; exact b7
      simp (disch := omega) only [gX11_surely, fX11_surely_0, fX11_surely_1, fX11_surely_4, fX11_surely_11, fX11_surely_13, fX11_surely_16, fX11_surely_17, fX11_surely_19, fX11_surely_22, mo_isO, mo_g14, kI_1, kI_n, mo_g39, Option.bind_some, n35, n9, n19, n51, n59, nI_add, ix2, ix8, ix22, ix5, ↓reduceIte, hanew, stR_eq, h14, n0_0, c_no, stR_stR]
  | true =>
    have hlk := c_lack1 (J := J) hB
    have hy := b9 rfl
    obtain ⟨S', k1, k2, k3⟩ := c_weigh (S := S) (S0 := S) (J := J) (T := T) b1 b2 hy rfl
    refine bth_q h (v := S' 38 2) (tr := nI 0) ?_ (fun S1 hf => ?_) n0_4
    · have f0 : S' 0 = S 0 := k3 0 (by decide)
      refine ⟨stR S' 0 (up (S' 0) 11 (nI 0)), ?_, fr_st (fr_mo k3 (by decide)) (by decide), by rw [stR_eq, up_eq], by rw [stR_eq, up_ne (by omega), f0]⟩
      simp (disch := omega) only [gX10_surely, fX10_surely_0, fX10_surely_1, fX10_surely_4, fX10_surely_7, fX10_surely_9, fX10_surely_12, fX10_surely_13, fX10_surely_21, fX10_surely_24, fX10_surely_32, fX10_surely_35, lt_isO, kI_1, lt_f3, lt_f9, he_isO, he_g2, Option.bind_some, n35, n9, n19, n51, n59, nI_add, ix2, ix8, ix22, ix5, ↓reduceIte, lt_isO, he_isO, hlk, n0_0, k1, he_g0, he_g1, he_g2, c_answer]
    · have h14 : nw S1 14 = nI 1 := by rw [nw14, hf 167 (by decide)]; exact b7
      obtain ⟨S2, w1, w2, w3, w4, w5, w6, w7⟩ := c_seek (S := S) (S0 := stR S1 167 (nw S1)) (J := J) (T := T) (v1 := m1) hy (by rw [stR_ne (by omega)]; exact hf 170 (by decide)) (by rw [stR_ne (by omega)]; exact hf 172 (by decide))
      have e : S2 167 39 = S' 38 2 := by
        obtain ⟨c, c1, c2, c3, c4⟩ := tie3 (r := S 170) (Z := S 172) (P := P) (N := N) (F := F) (E := E) (v1 := m1) (U := U) (by have := hy.1.2.2.2.2.2.1; omega) (2 ^ U) 0 0 (wg0 (S 38)) (m1, nI 0, nI 0, nI (2 ^ U - 1), z4 (stR S1 167 (nw S1) 180)) (by omega) (by omega) (by unfold wg0; rw [up_ne (by omega), up_ne (by omega), up_eq]) rfl (Or.inl ⟨rfl, by unfold wg0; rw [up_eq], rfl⟩)
        have h16 := (pw_U U (by have := hy.1.2.2.2.2.2.1; omega)).2
        have hq : skQ (S 170) (S 172) P N F U E m1 (stR S1 167 (nw S1) 180) = itr (skS (S 170) (S 172) P N F U E m1) (2 ^ U) 0 (m1, nI 0, nI 0, nI (2 ^ U - 1), z4 (stR S1 167 (nw S1) 180)) := rfl
        rw [w4, k2, hq, c3]
        unfold wgF
        rw [c2]
        by_cases hz : c = 0
        · rw [hz, if_pos (by decide), if_pos (by decide), up_eq]
        · have hz' : ¬ nI c = 0 := fun z => hz (by rwa [nI_z (by omega)] at z)
          rw [if_neg hz', if_neg hz', c4 (by omega)]
      refine ⟨S2, ?_, fr_tr (fr_st (fr_rf S1 _) (by decide)) (fr_mo w6 (by decide)), by rw [w7 11 (by omega) (by omega) (by omega) (by omega) (by omega), stR_eq]; exact up_eq, fun j hj => ?_⟩
      · rw [← e]
        simp (disch := omega) only [gX11_surely, fX11_surely_0, fX11_surely_1, fX11_surely_4, fX11_surely_11, fX11_surely_13, fX11_surely_16, fX11_surely_17, fX11_surely_19, fX11_surely_22, mo_isO, mo_g14, kI_1, kI_n, mo_g39, Option.bind_some, n35, n9, n19, n51, n59, nI_add, ix2, ix8, ix22, ix5, ↓reduceIte, hanew, stR_eq, h14, n1_0, w1]
      · have hne : ∀ j, j ∈ pM → j ≠ 25 ∧ j ≠ 26 ∧ j ≠ 37 ∧ j ≠ 38 ∧ j ≠ 39 := by decide
        obtain ⟨a, b, c, d, e⟩ := hne j hj
        rw [w7 j a b c d e, stR_eq]
        exact nw_q S1 j hj
end HE13

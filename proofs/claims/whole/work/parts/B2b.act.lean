-- ACTS: undoing
section ACT2b
variable {S : Mem} {J : MeJ} {T : Nat → Nat}
def xm (x : Nat) : Nat := if 0 < x then x - 1 else 15
set_option maxRecDepth 100000 in
set_option maxHeartbeats 400000 in
theorem xm_lt {x : Nat} (h : x < 16) : xm x < 16 := by unfold xm; split <;> omega
set_option maxRecDepth 100000 in
set_option maxHeartbeats 400000 in
theorem hi_5 {u x : Nat} (hx : x < 16) (hu : u < 16) : (x + 16 - (u + 1) + u) % 16 = xm x := by unfold xm; split <;> omega
set_option maxRecDepth 100000 in
set_option maxHeartbeats 400000 in
theorem hi_6 {u x i : Nat} (hx : x < 16) (hu : u < 16) (hi : i < u) : (xm x + 16 - u + i) % 16 = (x + 16 - (u + 1) + i) % 16 := by unfold xm; split <;> omega
set_option maxRecDepth 100000 in
set_option maxHeartbeats 400000 in
theorem n0_s : nI 0 - nI 1 = m1 := by decide
set_option maxRecDepth 100000 in
set_option maxHeartbeats 400000 in
theorem q_undo (h : Rl S T) : bth (fun h => gX10_undo 0 h) (fun h => gX11_undo 167 h) S J T := by
  have hanew : ∀ S1 : Mem, gX11_anew 167 (hp S1 J T) = some (hp (stR S1 167 (nw S1)) J T) := fun S1 => c_anew
  have hno : S 56 0 = nI 0 → S 167 23 = nI 0 → bth (fun h => gX10_undo 0 h) (fun h => gX11_undo 167 h) S J T := fun z1 z2 => by
    refine bth_q h (v := nI 0) (tr := nI 6) (cq_no ?_) (fun S1 hf => mq_no (X := up (nw S1) 11 (nI 6)) ?_ up_eq (nw_p S1 _)) (by decide)
    · simp (disch := omega) only [gX10_undo, fX10_undo_0, fX10_undo_8, fX10_undo_11, fX10_undo_21, fX10_undo_23, gX4_takeBack, fX4_takeBack_0, fX4_takeBack_7, lt_f5, lt_f8, hi_isO, hi_g0, z1, n0_0, kI_0, kB_6, true_or, lt_p11, Option.bind_some, ↓reduceIte, stS_R]
    · have h23 : nw S1 23 = nI 0 := by rw [nw_q S1 23 (by decide), hf 167 (by decide)]; exact z2
      simp (disch := omega) only [gX11_undo, fX11_undo_0, fX11_undo_1, fX11_undo_4, fX11_undo_11, fX11_undo_14, fX11_undo_17, gX11_isNot, fX11_isNot_0, mo_isO, hanew, mo_g23, mo_p11, stR_eq, h23, n0_0, kI_0, kB_6, true_or, Option.bind_some, ↓reduceIte, stS_R, stR_stR]
  obtain ⟨ht, P, N, F, U, E, hB, hF⟩ := Rl_bas2 h
  obtain ⟨b1, b2, b3, b4, b5, b6, b7, b8, b9, b10⟩ := id hB
  cases ht with
  | false =>
    rcases h.2.2.2 with ⟨z, _⟩ | ⟨_, z⟩
    · rw [b7] at z; exact absurd z (by decide)
    · exact hno z.2.2.1 z.2.2.2.2.2.1
  | true =>
    have hy := b9 rfl
    have hfd := hF rfl
    obtain ⟨u, x, w1, w2, w3, w4, w5, w6⟩ := hy.2.2.2.2.2.2.1
    rcases Nat.eq_zero_or_pos u with hu | hu
    · subst hu
      exact hno w3 w5
    · obtain ⟨u, rfl⟩ : ∃ v, u = v + 1 := ⟨u - 1, by omega⟩
      have hpl := plA_h (xm x) (xm_lt w2)
      have hu0 : (nI (u + 1) = 0) = False := by rw [nI_z (by omega)]; exact eq_false (by omega)
      have hxm := xm_lt w2
      have n139 : (58 + 4 * xm x) ≠ 139 := by omega
      have n56 : (58 + 4 * xm x) ≠ 56 := by omega
      generalize hS2 : stR (stR (stR S 56 (up (up (S 56) 1 (nI (xm x))) 0 (nI u))) 139 (cpR (S (58 + 4 * xm x)) (S 139) 22)) 0 (up (S 0) 11 (nI 0)) = S2
      have gf : fr S S2 [0, 56, 139] := by rw [← hS2]; exact fr_st (fr_st (fr_st (fr_rf S _) (by decide)) (by decide)) (by decide)
      have g0 : S2 0 = up (S 0) 11 (nI 0) := by rw [← hS2, stR_eq]
      have g56 : S2 56 = up (up (S 56) 1 (nI (xm x))) 0 (nI u) := by rw [← hS2, stR_ne (by omega), stR_ne (by omega), stR_eq]
      have g139 : S2 139 = cpR (S (58 + 4 * xm x)) (S 139) 22 := by rw [← hS2, stR_ne (by omega), stR_eq]
      have e167 : S2 167 = S 167 := gf 167 (by decide)
      have e174 : S2 174 = S 174 := gf 174 (by decide)
      have e176 : S2 176 = S 176 := gf 176 (by decide)
      have e177 : S2 177 = S 177 := gf 177 (by decide)
      have h23 : nw S2 23 = nI (u + 1) := by rw [nw_q S2 23 (by decide), e167]; exact w5
      generalize hS4 : stR (stR S2 167 (up (nw S2) 23 (nI u))) 174 (cpA (S 176) (S 174) (22 * u) 0 22) = S4
      have q174 : S4 174 = cpA (S 176) (S 174) (22 * u) 0 22 := by rw [← hS4, stR_eq]
      have q167 : S4 167 = up (nw S2) 23 (nI u) := by rw [← hS4, stR_ne (by omega), stR_eq]
      have qf : ∀ c, c ≠ 167 → c ≠ 174 → S4 c = S2 c := fun c z1 z2 => by rw [← hS4, stR_ne z2, stR_ne z1]
      have q176 : ∀ i, rw22 S4 176 i = rw22 S 176 i := fun i => by funext j; unfold rw22; rw [qf 176 (by omega) (by omega), e176]
      have q177 : ∀ i, rw22 S4 177 i = rw22 S 177 i := fun i => by funext j; unfold rw22; rw [qf 177 (by omega) (by omega), e177]
      have hrow : agR (S4 174) (rw22 S 176 u) P N := ag_22 b5 b6 (fun j hj => by
        rw [q174]
        unfold cpA rw22
        rw [if_pos (by omega), Nat.sub_zero])
      have hpj : ∀ j, j ≠ 0 → j ≠ 11 → j ≠ 23 → S4 167 j = S 167 j := fun j z1 z2 z3 => by
        rw [q167, up_ne z3]
        unfold nw
        rw [up_ne z2, up_ne z1, e167]
      obtain ⟨v, v1, v2, v3, v4⟩ := hy.2.2.2.2.2.2.2
      refine ⟨nI 1, S2, S4, J, J, T, ?_, ?_, gen_Rl h b7 hy (fun c hc => ?_) ⟨u, xm x, by omega, hxm, ?_, ?_, ?_, fun i hi => ?_⟩ ⟨v, v1, ?_, ?_, fun i hi => ?_⟩ ?_ ?_ ⟨?_, fun u' hu' hu2 i hi => ?_, fun v' hv' hv2 i hi => ?_⟩ ?_ ?_ ?_ (fun j hj => ?_)⟩
      · rw [← hS2]
        by_cases hx0 : 0 < x
        · have ex : nI x - nI 1 = nI (xm x) := by
            obtain ⟨y, rfl⟩ : ∃ y, x = y + 1 := ⟨x - 1, by omega⟩
            rw [sb1]
            unfold xm
            rw [if_pos hx0, Nat.add_sub_cancel]
          simp (disch := omega) only [gX10_undo, fX10_undo_0, fX10_undo_8, fX10_undo_11, fX10_undo_17, fX10_undo_23, gX4_takeBack, fX4_takeBack_0, fX4_takeBack_9, fX4_takeBack_17, fX4_takeBack_28, fX4_takeBack_51, fX4_takeBack_54, lt_f5, lt_f8, hi_isO, hi_g0, hi_g1, hi_p0, hi_p1, hi_f2, hi_r2, pl_isO plA_139, w3, w4, hu0, n1_0, n11, pos_eq, hx0, ex, sb1, kI_0, kI_1, kB_15, or_true, z1_z, lt_p11, Option.bind_some, ↓reduceIte, stS_R, stR_stR, stR_eq, up_ne, up_eq, c_copy plA_139 hpl n139, stR_ne n56, stR_ne (show 139 ≠ 56 by omega), stR_ne (show 0 ≠ 139 by omega), stR_ne (show 0 ≠ 56 by omega)]
        · have ex : xm x = 15 := by unfold xm; rw [if_neg hx0]
          rw [ex] at hpl n139 n56 ⊢
          simp (disch := omega) only [gX10_undo, fX10_undo_0, fX10_undo_8, fX10_undo_11, fX10_undo_17, fX10_undo_23, gX4_takeBack, fX4_takeBack_0, fX4_takeBack_9, fX4_takeBack_26, fX4_takeBack_28, fX4_takeBack_51, fX4_takeBack_54, lt_f5, lt_f8, hi_isO, hi_g0, hi_g1, hi_p0, hi_p1, hi_f2, hi_r2, pl_isO plA_139, w3, w4, hu0, n1_0, n11, pos_eq, hx0, sb1, kI_0, kI_1, kB_15, or_true, z1_z, lt_p11, Option.bind_some, ↓reduceIte, stS_R, stR_stR, stR_eq, up_ne, up_eq, c_copy plA_139 hpl n139, stR_ne n56, stR_ne (show 139 ≠ 56 by omega), stR_ne (show 0 ≠ 139 by omega), stR_ne (show 0 ≠ 56 by omega)]
      · rw [← hS4]
        have hc := c_cpy (S := stR S2 167 (up (nw S2) 23 (nI u))) (J := J) (T := T) (c1 := 176) (c2 := 174) (n1 := 352) (n2 := 22) (i0 := 22 * u) (i1 := 0) (n := 22) rfl rfl (by omega) (by omega) (by omega) (by omega) (by omega)
        rw [stR_ne (show 174 ≠ 167 by omega), stR_ne (show 176 ≠ 167 by omega), e174, e176] at hc
        simp (disch := omega) only [gX11_undo, fX11_undo_0, fX11_undo_1, fX11_undo_4, fX11_undo_18, fX11_undo_46, fX11_undo_49, mo_isO, hanew, mo_g23, mo_p23, mo_f19, mo_f21, stR_eq, h23, hu0, sb1, kI_0, kI_1, kB_22, ix22, hc, n1_0, n11, or_true, z1_z, Option.bind_some, ↓reduceIte, stS_R, stR_stR, up_eq]
      · have z : ∀ c, c ∈ [1, 2, 168, 170, 172, 143, 155] → c ≠ 167 ∧ c ≠ 174 ∧ c ∉ [0, 56, 139] := by decide
        obtain ⟨z1, z2, z3⟩ := z c hc
        rw [qf c z1 z2, gf c z3]
      · rw [qf 56 (by omega) (by omega), g56, up_eq]
      · rw [qf 56 (by omega) (by omega), g56, up_ne (by omega), up_eq]
      · rw [q167, up_eq]
      · have hk : ∀ k, k < 16 → 58 + 4 * k ≠ 167 ∧ 58 + 4 * k ≠ 174 ∧ 58 + 4 * k ∉ [0, 56, 139] := by decide
        obtain ⟨z1, z2, z3⟩ := hk ((xm x + 16 - u + i) % 16) (Nat.mod_lt _ (by omega))
        rw [qf _ z1 z2, gf _ z3, q176, hi_6 w2 (by omega) hi]
        exact w6 i (by omega)
      · rw [qf 122 (by omega) (by omega), gf 122 (by decide)]; exact v2
      · rw [hpj 24 (by omega) (by omega) (by omega)]; exact v3
      · have hk : ∀ k, k < 3 → 124 + 4 * k ≠ 167 ∧ 124 + 4 * k ≠ 174 ∧ 124 + 4 * k ∉ [0, 56, 139] := by decide
        obtain ⟨z1, z2, z3⟩ := hk i (by omega)
        rw [qf _ z1 z2, gf _ z3, q177]
        exact v4 i hi
      · rw [qf 139 (by omega) (by omega), g139]
        have z := (w6 u (by omega)).1
        rw [hi_5 w2 (by omega)] at z
        exact agR_cp b5 b6 (agR_tr z (agR_sy hrow))
      · exact Inv_ag hrow (w6 u (by omega)).2
      · exact Fdd_ag hrow (hfd.2.1 (u + 1) w1 w5 u (by omega))
      · rw [q167, up_eq, eq_eq (by omega) (by omega)] at hu2
        rw [q176]
        exact hfd.2.1 (u + 1) w1 w5 i (by omega)
      · rw [hpj 24 (by omega) (by omega) (by omega)] at hv2
        rw [q177]
        exact hfd.2.2 v' hv' hv2 i hi
      · rw [qf 0 (by omega) (by omega), g0, up_eq, q167, up_ne (by omega)]
        exact up_eq.symm
      · rw [q167, up_ne (by omega)]
        show up _ 11 (nI 0) 11 ≠ nI 4
        rw [up_eq]
        decide
      · rw [qf 0 (by omega) (by omega), g0, up_ne (by omega)]
      · have z : ∀ j, j ∈ [2, 9, 14] → j ≠ 0 ∧ j ≠ 11 ∧ j ≠ 23 := by decide
        obtain ⟨z1, z2, z3⟩ := z j hj
        exact hpj j z1 z2 z3
end ACT2b

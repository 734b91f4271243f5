-- ACTS: a day
section ACT2
variable {S : Mem} {J : MeJ} {T : Nat → Nat}
set_option maxRecDepth 100000 in
set_option maxHeartbeats 400000 in
theorem q_day (h : Rl S T) : bth (fun h => gX10_day 0 h) (fun h => gX11_day 167 h) S J T := by
  obtain ⟨ht, P, N, F, U, E, hB, hF⟩ := Rl_bas2 h
  obtain ⟨b1, b2, b3, b4, b5, b6, b7, b8, b9, b10⟩ := id hB
  have hanew : ∀ S1 : Mem, gX11_anew 167 (hp S1 J T) = some (hp (stR S1 167 (nw S1)) J T) := fun S1 => c_anew
  cases ht with
  | false =>
    refine bth_q h (v := m1) (tr := nI 1) (cq_no ?_) (fun S1 hf => mq_no (X := up (nw S1) 11 (nI 1)) ?_ up_eq (nw_p S1 _)) n1_4
    · simp (disch := omega) only [gX10_day, fX10_day_0, fX10_day_1, fX10_day_4, fX10_day_7, fX10_day_9, fX10_day_12, fX10_day_13, fX10_day_26, fX10_day_28, fX10_day_31, fX10_day_32, fX10_day_40, fX10_day_43, fX10_day_64, fX10_day_67, fX10_day_75, fX10_day_78, lt_isO, kI_1, lt_f8, kS_999, kI_3, lt_f5, hi_isO, lt_f7, lt_f9, kI_0, tl_g0 b1, Option.bind_some, n35, n9, n19, n51, n59, nI_add, ix2, ix8, ix22, ix5, ↓reduceIte, lt_isO, c_lacksTable b1 b3 b5, b8, Bool.not_false, bI_t, n1_0, c_refuse]
    · have h14 : nw S1 14 = nI 0 := by rw [nw14, hf 167 (by decide)]; exact b7
      simp (disch := omega) only [gX11_day, fX11_day_0, fX11_day_1, fX11_day_4, fX11_day_11, fX11_day_13, fX11_day_16, fX11_day_17, fX11_day_30, fX11_day_32, fX11_day_35, fX11_day_36, fX11_day_37, fX11_day_40, fX11_day_47, fX11_day_50, mo_isO, mo_g14, kI_1, mo_f19, mo_r19, kB_13, kS_999, kI_3, kI_0, mo_g26, Option.bind_some, n35, n9, n19, n51, n59, nI_add, ix2, ix8, ix22, ix5, ↓reduceIte, hanew, stR_eq, h14, n0_0, c_no, stR_stR]
  | true =>
    have hlk := c_lack1 (J := J) hB
    have hy := b9 rfl
    have hfd := hF rfl
    have h13 : S 139 13 = S 174 13 := hy.2.2.2.2.1.2.1 13 (by omega) (by omega)
    obtain ⟨d, hd, ed⟩ := hy.2.2.2.2.2.1.2.2.2.2.2.2.1
    by_cases hd9 : d < 999
    · have hne : (d = 999) = False := eq_false (by omega)
      obtain ⟨u, x, w1, w2, w3, w4, w5, w6⟩ := hy.2.2.2.2.2.2.1
      obtain ⟨S1, k1, k2, k3, k4, k5⟩ := c_hkeep (S := S) (J := J) (T := T) w1 w2 w3 w4
      have f139 : S1 139 = S 139 := k5 139 (by simp; omega)
      have f0 : S1 0 = S 0 := k5 0 (by simp; omega)
      have htt := tT_pl h.1
      have ft : S1 (T 0) = S (T 0) := k5 (T 0) (by
        simp only [List.mem_cons, List.not_mem_nil, or_false, not_or]
        rcases htt.2.2 with z | z <;> omega)
      have hTb : TbS (S (T 0)) P N := TbS_ag hy.2.1 hy.1.1
      have hI1 : Inv (S 139) P N 999 := Inv_ag hy.2.2.2.2.1 hy.2.2.2.2.2.1
      obtain ⟨O, o1, o2, o3, o4⟩ := c_hold (S := S1) (J := J) (T := T) (m := 136) (a := 139) (t := T 0) (P := P) (N := N) (F := F) (bes := nI 0) (fl := false) (bowl := S (T 0) 0) mlA_136 plA_139 b1 (by omega) (by rcases htt.2.2 with z | z <;> omega) (by rcases htt.2.2 with z | z <;> omega) (by rw [ft]; exact b3) b5 (by rw [ft]; exact b4) b6 (by rw [ft, hy.2.1.1 5 (by omega)]; exact hy.1.2.2.1) hy.1.2.2.2.1 hTb.2.2.2.2.1 (by rw [ft, f139]; exact inv_Sml hTb hI1)
      rw [ft, f139] at o1 o3
      generalize hS2 : stR (stR (stR S1 139 (dayR (S (T 0)) (S 139) P N F (nI 0) false (S (T 0) 0))) 136 O) 0 (up (S1 0) 11 (nI 0)) = S2
      have g0 : S2 0 = up (S1 0) 11 (nI 0) := by rw [← hS2, stR_eq]
      have g139 : S2 139 = dayR (S (T 0)) (S 139) P N F (nI 0) false (S (T 0) 0) := by rw [← hS2, stR_ne (by omega), stR_ne (by omega), stR_eq]
      have gf : fr S1 S2 [0, 136, 139] := by rw [← hS2]; exact fr_st (fr_st (fr_st (fr_rf S1 _) (by decide)) (by decide)) (by decide)
      have gS : ∀ c, c ∉ [0, 136, 139] → c ≠ 56 → c ≠ 58 + 4 * x → S2 c = S c := fun c z1 z2 z3 => by rw [gf c z1, k5 c (by simp; omega)]
      have e167 : S2 167 = S 167 := gS 167 (by decide) (by omega) (by omega)
      have e170 : S2 170 = S 170 := gS 170 (by decide) (by omega) (by omega)
      have e174 : S2 174 = S 174 := gS 174 (by decide) (by omega) (by omega)
      have h14 : nw S2 14 = nI 1 := by rw [nw14, e167]; exact b7
      obtain ⟨S3, n1, n2, n3, n4⟩ := c_note (S := stR S2 167 (nw S2)) (J := J) (T := T) (u := u) w1 (by rw [stR_eq, nw_q S2 23 (by decide), e167]; exact w5)
      have i174 : S3 174 = S 174 := by rw [n4 174 (by decide), stR_ne (by omega)]; exact e174
      have i170 : S3 170 = S 170 := by rw [n4 170 (by decide), stR_ne (by omega)]; exact e170
      obtain ⟨S4, d1, d2, d3, d4, d5⟩ := m_day (S := S3) (J := J) (T := T) (w := 174) (P := P) (N := N) (F := F) (D := 999) (bes := nI 0) (fl := false) rwA_174 (by omega) (by omega) (by omega) (by omega) (by rw [i170]; exact hy.1.1) (by rw [i170]; exact hy.1.2.2.1) hy.1.2.2.2.1 (by rw [i174]; exact hy.2.2.2.2.2.1) (by omega)
      rw [i170, i174] at d2 d3
      have hdf := day_Fd (F := F) (bes := nI 0) (fl := false) (bowl := S 170 0) hy.1.1 hy.2.2.2.2.2.1 hfd.1 ed hd9 hy.1.1.2.2.2.2.1
      refine ⟨oi (dWt (S 170) (S 174) P N false), S2, S4, J, J, T, ?_, ?_, act_fin (S0 := S) (S1 := S1) (S2 := S2) (S3 := S3) h b7 hy hfd w1 w2 w5 w6 (fr_rf S _) rfl k2 k3 k4 k5 gf (by rw [g0, up_eq]) (by rw [g0, up_ne (by omega)]) n2 n3 n4 d5 (fun j z1 z2 => by rw [d3, up_ne z2, up_ne z1]) ?_ ?_ ?_⟩
      · rw [bI_f] at o1
        generalize dayR (S (T 0)) (S 139) P N F (nI 0) false (S (T 0) 0) = R1 at o1 hS2
        rw [ag_dWt hy.2.1 hy.2.2.2.2.1] at o3
        rw [← hS2]
        have ew : gX10_day 0 (hp S J T) = fX10_day_67 0 (hp (stR (stR S1 139 R1) 136 O) J T) := by
          unfold gX10_day fX10_day_0 fX10_day_1
          rw [lt_isO, Option.bind_some, hlk, Option.bind_some]
          unfold fX10_day_4
          rw [if_pos (show nI 0 = 0 from rfl)]
          unfold fX10_day_13
          rw [lt_f8, Option.bind_some, pl_g6 plA_139, Option.bind_some, h13, ed, kS_999, if_pos ((lt_iff (by omega) (by omega)).mpr hd9)]
          unfold fX10_day_32
          rw [lt_f5, Option.bind_some, lt_f8, Option.bind_some]
          unfold fX10_day_40
          rw [hi_isO, Option.bind_some, k1, Option.bind_some]
          unfold fX10_day_43
          rw [lt_f7, Option.bind_some, lt_f9, Option.bind_some, lt_f8, Option.bind_some, Option.bind_some, tl_g0 b1, Option.bind_some, ft, kI_0]
          unfold fX10_day_64
          rw [ml_isO mlA_136, Option.bind_some, o1, Option.bind_some]
        refine Eq.trans ew ?_
        simp (disch := omega) only [fX10_day_67, fX10_day_75, fX10_day_78, lt_isO, lt_f7, ml_g1 mlA_136, stR_eq, o3, c_answer, stR_ne (show 0 ≠ 136 by omega), stR_ne (show 0 ≠ 139 by omega), Option.bind_some]
      · have hv : S4 167 26 = oi (dWt (S 170) (S 174) P N false) := by rw [d3, up_eq]
        rw [← hv]
        rw [bI_f] at d1
        simp (disch := omega) only [gX11_day, fX11_day_0, fX11_day_1, fX11_day_4, fX11_day_11, fX11_day_13, fX11_day_16, fX11_day_17, fX11_day_30, fX11_day_32, fX11_day_35, fX11_day_36, fX11_day_37, fX11_day_40, fX11_day_47, fX11_day_50, mo_isO, mo_g14, kI_1, mo_f19, mo_r19, kB_13, kS_999, kI_3, kI_0, mo_g26, Option.bind_some, n35, n9, n19, n51, n59, nI_add, ix2, ix8, ix22, ix5, ↓reduceIte, hanew, stR_eq, h14, n1_0, rw_r rwA_174, stR_ne (show 174 ≠ 167 by omega), e174, ed, kS_999, eq_eq, hne, n1, d1]
      · rw [g139, d2, hy.2.1.1 0 (by omega)]
        exact (ag_day hy.2.1 hy.2.2.2.2.1 b5 _ _ _).1
      · rw [d2]; exact hdf.1
      · rw [d2]; exact hdf.2
    · have e9 : d = 999 := by omega
      refine bth_q h (v := m1) (tr := nI 3) (cq_no ?_) (fun S1 hf => mq_no (X := up (nw S1) 11 (nI 3)) ?_ up_eq (nw_p S1 _)) (by decide)
      · simp (disch := omega) only [gX10_day, fX10_day_0, fX10_day_1, fX10_day_4, fX10_day_7, fX10_day_9, fX10_day_12, fX10_day_13, fX10_day_26, fX10_day_28, fX10_day_31, fX10_day_32, fX10_day_40, fX10_day_43, fX10_day_64, fX10_day_67, fX10_day_75, fX10_day_78, lt_isO, kI_1, lt_f8, pl_g6 plA_139, kS_999, kI_3, lt_f5, hi_isO, lt_f7, lt_f9, kI_0, tl_g0 b1, ml_isO mlA_136, ml_g1 mlA_136, Option.bind_some, n35, n9, n19, n51, n59, nI_add, ix2, ix8, ix22, ix5, ↓reduceIte, lt_isO, hlk, n0_0, h13, ed, lt_eq, hd9, c_refuse]
      · have h14 : nw S1 14 = nI 1 := by rw [nw14, hf 167 (by decide)]; exact b7
        simp (disch := omega) only [gX11_day, fX11_day_0, fX11_day_1, fX11_day_4, fX11_day_11, fX11_day_13, fX11_day_16, fX11_day_17, fX11_day_30, fX11_day_32, fX11_day_35, fX11_day_36, fX11_day_37, fX11_day_40, fX11_day_47, fX11_day_50, mo_isO, mo_g14, kI_1, mo_f19, mo_r19, kB_13, kS_999, kI_3, kI_0, mo_g26, Option.bind_some, n35, n9, n19, n51, n59, nI_add, ix2, ix8, ix22, ix5, ↓reduceIte, hanew, stR_eq, h14, n1_0, rw_r rwA_174, stR_ne (show 174 ≠ 167 by omega), hf 174 (by decide), ed, e9, c_no, stR_stR]
end ACT2

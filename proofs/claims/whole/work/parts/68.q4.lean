-- CALLS, GUESTS, PERSONS, NAMES
section Q4
variable {S S1 : Mem} {J : MeJ} {T : Nat → Nat} {t a w P N F U E : Nat} {ht : Bool}
set_option maxRecDepth 100000 in
set_option maxHeartbeats 400000 in
theorem q_calls (h : Rl S T) (p : Int32) : bth (fun h => gX10_calls 0 p h) (fun h => gX11_calls 167 p h) S J T := by
  obtain ⟨ht, P, N, F, U, E, hB⟩ := Rl_bas h
  obtain ⟨b1, b2, b3, b4, b5, b6, b7, b8, b9, b10⟩ := id hB
  cases hok : okB' p P with
  | false =>
    refine bth_q h (v := m1) (tr := nI 1) (cq_no ?_) (fun S1 hf => mq_no (X := up (nw S1) 11 (nI 1)) ?_ up_eq (nw_p S1 _)) n1_4
    · simp (disch := omega) only [gX10_calls, fX10_calls_0, fX10_calls_2, fX10_calls_5, fX10_calls_8, fX10_calls_10, fX10_calls_13, fX10_calls_14, fX10_calls_20, fX10_calls_23, fX10_calls_26, fX10_calls_31, fX10_calls_44, fX10_calls_47, fX10_calls_50, fX10_calls_53, lt_isO, kI_1, lt_f8, kB_o, lt_f9, tl_isO b1, Option.bind_some, n35, n9, n19, n51, n59, nI_add, ix2, ix8, ix22, ix5, ↓reduceIte, c_lacksPerson b1 b3, hok, Bool.not_false, bI_t, n1_0, c_refuse]
    · have hanew : gX11_anew 167 (hp S1 J T) = some (hp (stR S1 167 (nw S1)) J T) := c_anew
      have hip := m_isP (S1 := stR S1 167 (nw S1)) (J := J) (p := p) hB (by rw [stR_eq, nw14, hf 167 (by decide)]) (by rw [stR_ne (by omega)]; exact hf 170 (by decide))
      rw [hok] at hip
      simp (disch := omega) only [gX11_calls, fX11_calls_0, fX11_calls_1, fX11_calls_4, fX11_calls_6, fX11_calls_9, fX11_calls_12, fX11_calls_14, fX11_calls_17, fX11_calls_18, fX11_calls_19, fX11_calls_22, fX11_calls_28, fX11_calls_31, fX11_calls_34, fX11_calls_47, fX11_calls_50, fX11_calls_53, fX11_calls_56, fX11_calls_58, mo_isO, kI_1, mo_f19, mo_r19, mo_f20, mo_r20, kB_o, Option.bind_some, n35, n9, n19, n51, n59, nI_add, ix2, ix8, ix22, ix5, ↓reduceIte, hanew, hip, bI_f, n0_0, c_no, stR_stR, stR_eq]
  | true =>
    obtain rfl := ok_yes hB hok
    obtain ⟨k, hk, rfl⟩ := okB_t (by omega) hok
    have hy := b9 rfl
    obtain ⟨s1, s2⟩ := sees hy hk
    refine bth_q h (v := if lv (S 174) k then oi (nm (S 170) N (sh (S 170) (S 174) k)) else oi none) (tr := nI 0) (cq_no ?_) (fun S1 hf => ?_) n0_4
    · cases hl : lv (S 174) k with
      | true =>
        have hd : bt (S 139 10) k = false := by
          have : lv (S 139) k = true := s1.trans hl
          unfold lv at this
          cases e : bt (S 139 10) k
          · rfl
          · rw [e] at this; cases this
        rw [if_pos rfl, ← s2, ← ag_nm hy.2.1]
        simp (disch := omega) only [gX10_calls, fX10_calls_0, fX10_calls_2, fX10_calls_5, fX10_calls_8, fX10_calls_10, fX10_calls_13, fX10_calls_14, fX10_calls_20, fX10_calls_23, fX10_calls_26, fX10_calls_31, fX10_calls_44, fX10_calls_47, fX10_calls_50, fX10_calls_53, lt_isO, kI_1, lt_f8, kB_o, lt_f9, tl_isO b1, Option.bind_some, n35, n9, n19, n51, n59, nI_add, ix2, ix8, ix22, ix5, ↓reduceIte, tl_isO b1, c_lacksPerson b1 b3, hok, Bool.not_true, bI_f, n0_0, pl_isO plA_139, c_isDead plA_139, hd, c_seenHunger plA_139 b1, c_nameSeen b1 b4 b6, c_answer]
        rfl
      | false =>
        have hd : bt (S 139 10) k = true := by
          have : lv (S 139) k = false := s1.trans hl
          unfold lv at this
          cases e : bt (S 139 10) k
          · rw [e] at this; cases this
          · rfl
        rw [if_neg (by decide)]
        simp (disch := omega) only [gX10_calls, fX10_calls_0, fX10_calls_2, fX10_calls_5, fX10_calls_8, fX10_calls_10, fX10_calls_13, fX10_calls_14, fX10_calls_20, fX10_calls_23, fX10_calls_26, fX10_calls_31, fX10_calls_44, fX10_calls_47, fX10_calls_50, fX10_calls_53, lt_isO, kI_1, lt_f8, kB_o, lt_f9, tl_isO b1, Option.bind_some, n35, n9, n19, n51, n59, nI_add, ix2, ix8, ix22, ix5, ↓reduceIte, c_lacksPerson b1 b3, hok, Bool.not_true, bI_f, bI_t, n1_0, n0_0, pl_isO plA_139, c_isDead plA_139, hd, c_answer]
    · have hip := m_isP (S1 := stR S1 167 (nw S1)) (J := J) (p := nI k) hB (by rw [stR_eq, nw14, hf 167 (by decide)]) (by rw [stR_ne (by omega)]; exact hf 170 (by decide))
      rw [hok] at hip
      have e170 : S1 170 = S 170 := hf 170 (by decide)
      have e174 : S1 174 = S 174 := hf 174 (by decide)
      have hd := c_dawn (S := stR S1 167 (nw S1)) (J := J) (T := T) (P := P) (by rw [stR_ne (by omega), e170]; exact hy.1.1.1) b5
      rw [stR_ne (show 170 ≠ 167 by omega), stR_ne (show 174 ≠ 167 by omega), stR_ne (show 175 ≠ 167 by omega), e170, e174] at hd
      have hanew : gX11_anew 167 (hp S1 J T) = some (hp (stR S1 167 (nw S1)) J T) := c_anew
      have hN4 : ∀ X : Row, stR (stR S1 167 (nw S1)) 175 X 170 4 = nI N := fun X => by rw [stR_ne (by omega), stR_ne (by omega), e170]; exact hy.1.1.2.2.1
      refine ⟨stR (stR S1 167 (nw S1)) 175 (grR (S 170) (cpR (S 174) (S1 175) 22) P), ?_, fr_st (fr_st (fr_rf S1 _) (by decide)) (by decide), by rw [stR_ne (by omega), stR_eq]; exact up_eq, fun j hj => by rw [stR_ne (by omega), stR_eq]; exact nw_q S1 j hj⟩
      cases hl : lv (S 174) k with
      | true =>
        rw [if_pos rfl]
        simp (disch := omega) only [gX11_calls, fX11_calls_0, fX11_calls_1, fX11_calls_4, fX11_calls_6, fX11_calls_9, fX11_calls_12, fX11_calls_14, fX11_calls_17, fX11_calls_18, fX11_calls_19, fX11_calls_22, fX11_calls_28, fX11_calls_31, fX11_calls_34, fX11_calls_47, fX11_calls_50, fX11_calls_53, fX11_calls_56, fX11_calls_58, mo_isO, kI_1, mo_f19, mo_r19, mo_f20, mo_r20, kB_o, Option.bind_some, n35, n9, n19, n51, n59, nI_add, ix2, ix8, ix22, ix5, ↓reduceIte, hanew, hip, bI_t, n1_0, hd, c_lives rwA_174, stR_ne (show 174 ≠ 175 by omega), stR_ne (show 174 ≠ 167 by omega), e174, hl, rw_r rwA_175, c_seenOf rwA_175, stR_eq, stR_ne (show 170 ≠ 175 by omega), stR_ne (show 170 ≠ 167 by omega), e170, seesM hy _ hk hl, c_nameAt (hN4 _) b6]
      | false =>
        rw [if_neg (by decide)]
        simp (disch := omega) only [gX11_calls, fX11_calls_0, fX11_calls_1, fX11_calls_4, fX11_calls_6, fX11_calls_9, fX11_calls_12, fX11_calls_14, fX11_calls_17, fX11_calls_18, fX11_calls_19, fX11_calls_22, fX11_calls_28, fX11_calls_31, fX11_calls_34, fX11_calls_47, fX11_calls_50, fX11_calls_53, fX11_calls_56, fX11_calls_58, mo_isO, kI_1, mo_f19, mo_r19, mo_f20, mo_r20, kB_o, Option.bind_some, n35, n9, n19, n51, n59, nI_add, ix2, ix8, ix22, ix5, ↓reduceIte, hanew, hip, bI_t, n1_0, bI_f, n0_0, hd, c_lives rwA_174, stR_ne (show 174 ≠ 175 by omega), stR_ne (show 174 ≠ 167 by omega), e174, hl]
set_option maxRecDepth 100000 in
set_option maxHeartbeats 400000 in
theorem q_nameWith (h : Rl S T) (n : Int32) : bth (fun h => gX10_nameWith 0 n h) (fun h => gX11_nameWith 167 n h) S J T := by
  obtain ⟨ht, P, N, F, U, E, hB⟩ := Rl_bas h
  obtain ⟨b1, b2, b3, b4, b5, b6, b7, b8, b9, b10⟩ := id hB
  cases hno : (ht && inB n (nI 0) (nI 999)) with
  | false =>
    refine bth_q h (v := m1) (tr := why ht (inB n (nI 0) (nI 999))) (cq_no ?_) (fun S1 hf => mq_no (X := up (nw S1) 11 (why ht (inB n (nI 0) (nI 999)))) ?_ up_eq (nw_p S1 _)) (why_4 _ _)
    · simp (disch := omega) only [gX10_nameWith, fX10_nameWith_0, fX10_nameWith_2, fX10_nameWith_5, fX10_nameWith_10, fX10_nameWith_13, fX10_nameWith_16, fX10_nameWith_18, fX10_nameWith_20, fX10_nameWith_23, lt_isO, kI_0, kS_999, kI_n, Option.bind_some, n35, n9, n19, n51, n59, nI_add, ix2, ix8, ix22, ix5, ↓reduceIte, lt_isO, c_lacksTable b1 b3 b5, b8, c_isRefused, hno, Bool.not_false, bI_t, n1_0]
    · have h14 : S1 167 14 = bI ht := by rw [hf 167 (by decide)]; exact b7
      simp (disch := omega) only [gX11_nameWith, fX11_nameWith_0, fX11_nameWith_1, fX11_nameWith_4, fX11_nameWith_14, fX11_nameWith_17, fX11_nameWith_20, fX11_nameWith_25, fX11_nameWith_27, fX11_nameWith_30, fX11_nameWith_31, fX11_nameWith_32, fX11_nameWith_35, fX11_nameWith_42, fX11_nameWith_46, fX11_nameWith_47, fX11_nameWith_50, mo_isO, mo_g14, kI_0, kS_999, Option.bind_some, n35, n9, n19, n51, n59, nI_add, ix2, ix8, ix22, ix5, ↓reduceIte, c_anew, stR_eq, up_ne, h14, c_in, c_why, why_ne hno, c_no, stR_stR, nw]
  | true =>
    rw [Bool.and_eq_true] at hno
    obtain ⟨rfl, hin⟩ := hno
    have hy := b9 rfl
    have hg := ag_gs hy.2.1 hy.2.2.2.2.1
    refine bth_q h (v := oi (nm (S 170) N (if gs (S 170) (S 174) P < n then n else gs (S 170) (S 174) P))) (tr := nI 0) (cq_no ?_) (fun S1 hf => ?_) n0_4
    · have cg : ∀ X : Row, gX10_greatestSeen 0 (hp (stR S 0 X) J T) = some (gs (S 170) (S 174) P, hp (stR S 0 X) J T) := fun X => by
        rw [c_greatestSeen b1 (by rw [stR_ne (by omega)]; exact b3) b5, stR_ne (by omega), stR_ne (by omega), hg]
      have hN' : ∀ X : Row, stR S 0 X (T 0) 4 = nI N := fun X => by rw [stR_ne (by omega)]; exact b4
      rw [← ag_nm hy.2.1]
      by_cases hc : gs (S 170) (S 174) P < n
      · rw [if_pos hc]
        simp (disch := omega) only [gX10_nameWith, fX10_nameWith_0, fX10_nameWith_2, fX10_nameWith_5, fX10_nameWith_10, fX10_nameWith_13, fX10_nameWith_16, fX10_nameWith_18, fX10_nameWith_20, fX10_nameWith_23, lt_isO, kI_0, kS_999, kI_n, Option.bind_some, n35, n9, n19, n51, n59, nI_add, ix2, ix8, ix22, ix5, ↓reduceIte, c_lack1 hB, c_isRef1 hin, n0_0, gX10_dishWithGuest, gX10_dishWithGuest, fX10_dishWithGuest_0, fX10_dishWithGuest_1, fX10_dishWithGuest_4, fX10_dishWithGuest_14, fX10_dishWithGuest_18, fX10_dishWithGuest_19, fX10_dishWithGuest_22, lt_isO, lt_f9, tl_isO b1, Option.bind_some, n35, n9, n19, n51, n59, nI_add, ix2, ix8, ix22, ix5, ↓reduceIte, tl_isO b1, cg, hc, c_nameSeen b1 (hN' _) b6, stR_ne (show T 0 ≠ 0 by omega)]
      · rw [if_neg hc]
        simp (disch := omega) only [gX10_nameWith, fX10_nameWith_0, fX10_nameWith_2, fX10_nameWith_5, fX10_nameWith_10, fX10_nameWith_13, fX10_nameWith_16, fX10_nameWith_18, fX10_nameWith_20, fX10_nameWith_23, lt_isO, kI_0, kS_999, kI_n, Option.bind_some, n35, n9, n19, n51, n59, nI_add, ix2, ix8, ix22, ix5, ↓reduceIte, c_lack1 hB, c_isRef1 hin, n0_0, gX10_dishWithGuest, gX10_dishWithGuest, fX10_dishWithGuest_0, fX10_dishWithGuest_1, fX10_dishWithGuest_4, fX10_dishWithGuest_14, fX10_dishWithGuest_18, fX10_dishWithGuest_19, fX10_dishWithGuest_22, lt_isO, lt_f9, tl_isO b1, Option.bind_some, n35, n9, n19, n51, n59, nI_add, ix2, ix8, ix22, ix5, ↓reduceIte, tl_isO b1, cg, hc, c_nameSeen b1 (hN' _) b6, stR_ne (show T 0 ≠ 0 by omega)]
    · have h14 : nw S1 14 = bI true := by rw [nw14, hf 167 (by decide)]; exact b7
      have e170 : S1 170 = S 170 := hf 170 (by decide)
      have e174 : S1 174 = S 174 := hf 174 (by decide)
      have hanew : gX11_anew 167 (hp S1 J T) = some (hp (stR S1 167 (nw S1)) J T) := c_anew
      have hs := c_seenMost (S := stR S1 167 (nw S1)) (J := J) (T := T) (P := P) (by rw [stR_ne (by omega), e170]; exact hy.1.1.1) b5
      rw [stR_ne (show 170 ≠ 167 by omega), stR_ne (show 174 ≠ 167 by omega), stR_ne (show 175 ≠ 167 by omega), e170, e174, ag_gs (agT_rf _ P N F) (agR_cp b5 b6 (agR_rf (S 174) P N))] at hs
      have hN4 : ∀ X : Row, stR (stR S1 167 (nw S1)) 175 X 170 4 = nI N := fun X => by rw [stR_ne (by omega), stR_ne (by omega), e170]; exact hy.1.1.2.2.1
      have hw : gX11_why 167 (nI 1) (nI 1) (hp (stR S1 167 (nw S1)) J T) = some (nI 0, hp (stR S1 167 (nw S1)) J T) := c_why (a := true) (b := true)
      refine ⟨stR (stR S1 167 (nw S1)) 175 (grR (S 170) (cpR (S 174) (S1 175) 22) P), ?_, fr_st (fr_st (fr_rf S1 _) (by decide)) (by decide), by rw [stR_ne (by omega), stR_eq]; exact up_eq, fun j hj => by rw [stR_ne (by omega), stR_eq]; exact nw_q S1 j hj⟩
      by_cases hc : gs (S 170) (S 174) P < n
      · rw [if_pos hc]
        simp (disch := omega) only [gX11_nameWith, fX11_nameWith_0, fX11_nameWith_1, fX11_nameWith_4, fX11_nameWith_14, fX11_nameWith_17, fX11_nameWith_20, fX11_nameWith_25, fX11_nameWith_27, fX11_nameWith_30, fX11_nameWith_31, fX11_nameWith_32, fX11_nameWith_35, fX11_nameWith_42, fX11_nameWith_46, fX11_nameWith_47, fX11_nameWith_50, mo_isO, mo_g14, kI_0, kS_999, Option.bind_some, n35, n9, n19, n51, n59, nI_add, ix2, ix8, ix22, ix5, ↓reduceIte, hanew, stR_eq, h14, c_in, hin, bI_t, hw, n0_0, hs, hc, c_nameAt (hN4 _) b6, stR_ne (show 170 ≠ 175 by omega), stR_ne (show 170 ≠ 167 by omega), e170]
      · rw [if_neg hc]
        simp (disch := omega) only [gX11_nameWith, fX11_nameWith_0, fX11_nameWith_1, fX11_nameWith_4, fX11_nameWith_14, fX11_nameWith_17, fX11_nameWith_20, fX11_nameWith_25, fX11_nameWith_27, fX11_nameWith_30, fX11_nameWith_31, fX11_nameWith_32, fX11_nameWith_35, fX11_nameWith_42, fX11_nameWith_46, fX11_nameWith_47, fX11_nameWith_50, mo_isO, mo_g14, kI_0, kS_999, Option.bind_some, n35, n9, n19, n51, n59, nI_add, ix2, ix8, ix22, ix5, ↓reduceIte, hanew, stR_eq, h14, c_in, hin, bI_t, hw, n0_0, hs, hc, c_nameAt (hN4 _) b6, stR_ne (show 170 ≠ 175 by omega), stR_ne (show 170 ≠ 167 by omega), e170]
set_option maxRecDepth 100000 in
set_option maxHeartbeats 400000 in
theorem q_name (h : Rl S T) (p what : Int32) : bth (fun h => gX10_name 0 p what h) (fun h => gX11_name 167 p what h) S J T := by
  obtain ⟨ht, P, N, F, U, E, hB⟩ := Rl_bas h
  obtain ⟨b1, b2, b3, b4, b5, b6, b7, b8, b9, b10⟩ := id hB
  cases hok : okB' p N with
  | false =>
    refine bth_q h (v := m1) (tr := nI 1) (cq_no ?_) (fun S1 hf => mq_no (X := up (nw S1) 11 (nI 1)) ?_ up_eq (nw_p S1 _)) n1_4
    · simp (disch := omega) only [gX10_name, fX10_name_0, fX10_name_2, fX10_name_5, fX10_name_8, fX10_name_12, fX10_name_17, fX10_name_19, fX10_name_22, fX10_name_23, fX10_name_28, fX10_name_40, fX10_name_49, fX10_name_52, lt_isO, kI_1, lt_f9, tl_f11 b1, tl_r11 b1, lt_f8, Option.bind_some, n35, n9, n19, n51, n59, nI_add, ix2, ix8, ix22, ix5, ↓reduceIte, c_lacksName b1 b4, hok, Bool.not_false, bI_t, n1_0, c_refuse]
    · have hanew : gX11_anew 167 (hp S1 J T) = some (hp (stR S1 167 (nw S1)) J T) := c_anew
      have hip := m_isN (S1 := stR S1 167 (nw S1)) (J := J) (p := p) hB (by rw [stR_eq, nw14, hf 167 (by decide)]) (by rw [stR_ne (by omega)]; exact hf 170 (by decide))
      rw [hok] at hip
      simp (disch := omega) only [gX11_name, fX11_name_0, fX11_name_1, fX11_name_4, fX11_name_6, fX11_name_9, fX11_name_12, fX11_name_15, fX11_name_18, fX11_name_21, fX11_name_23, fX11_name_26, fX11_name_27, fX11_name_31, fX11_name_45, fX11_name_54, mo_isO, kI_0, kI_1, mo_f15, mo_r15, kB_19, kI_2, mo_f19, mo_r19, kB_14, Option.bind_some, n35, n9, n19, n51, n59, nI_add, ix2, ix8, ix22, ix5, ↓reduceIte, hanew, hip, bI_f, n0_0, c_no, stR_stR, stR_eq]
  | true =>
    obtain rfl := ok_yesN hB hok
    obtain ⟨k, hk, rfl⟩ := okB_t (by omega) hok
    have hy := b9 rfl
    have hanew : ∀ S1 : Mem, gX11_anew 167 (hp S1 J T) = some (hp (stR S1 167 (nw S1)) J T) := fun S1 => c_anew
    cases hin : inB what (nI 0) (nI 1) with
    | false =>
      refine bth_q h (v := m1) (tr := nI 1) (cq_no ?_) (fun S1 hf => mq_no (X := up (nw S1) 11 (nI 1)) ?_ up_eq (nw_p S1 _)) n1_4
      · unfold inB at hin
        by_cases h0 : what < 0
        · simp (disch := omega) only [gX10_name, fX10_name_0, fX10_name_2, fX10_name_5, fX10_name_8, fX10_name_12, fX10_name_17, fX10_name_19, fX10_name_22, fX10_name_23, fX10_name_28, fX10_name_40, fX10_name_49, fX10_name_52, lt_isO, kI_1, lt_f9, tl_f11 b1, tl_r11 b1, lt_f8, Option.bind_some, n35, n9, n19, n51, n59, nI_add, ix2, ix8, ix22, ix5, ↓reduceIte, c_lacksName b1 b4, hok, Bool.not_true, bI_f, n0_0, h0, c_refuse]
        · have h1 : nI 1 < what := by
            have := of_decide_eq_false hin
            exact Classical.byContradiction fun z => this ⟨h0, z⟩
          simp (disch := omega) only [gX10_name, fX10_name_0, fX10_name_2, fX10_name_5, fX10_name_8, fX10_name_12, fX10_name_17, fX10_name_19, fX10_name_22, fX10_name_23, fX10_name_28, fX10_name_40, fX10_name_49, fX10_name_52, lt_isO, kI_1, lt_f9, tl_f11 b1, tl_r11 b1, lt_f8, Option.bind_some, n35, n9, n19, n51, n59, nI_add, ix2, ix8, ix22, ix5, ↓reduceIte, c_lacksName b1 b4, hok, Bool.not_true, bI_f, n0_0, h0, h1, c_refuse]
      · have hip := m_isN (S1 := stR S1 167 (nw S1)) (J := J) (p := nI k) hB (by rw [stR_eq, nw14, hf 167 (by decide)]) (by rw [stR_ne (by omega)]; exact hf 170 (by decide))
        rw [hok] at hip
        simp (disch := omega) only [gX11_name, fX11_name_0, fX11_name_1, fX11_name_4, fX11_name_6, fX11_name_9, fX11_name_12, fX11_name_15, fX11_name_18, fX11_name_21, fX11_name_23, fX11_name_26, fX11_name_27, fX11_name_31, fX11_name_45, fX11_name_54, mo_isO, kI_0, kI_1, mo_f15, mo_r15, kB_19, kI_2, mo_f19, mo_r19, kB_14, Option.bind_some, n35, n9, n19, n51, n59, nI_add, ix2, ix8, ix22, ix5, ↓reduceIte, hanew, hip, bI_t, n1_0, c_in, hin, bI_f, n0_0, c_no, stR_stR, stR_eq]
    | true =>
      obtain ⟨j, hj0, hj1, rfl⟩ := inB_t (by omega) (by omega) hin
      have hip : ∀ S1, fr S S1 CL → gX11_isName 167 (nI k) (hp (stR S1 167 (nw S1)) J T) = some (nI 1, hp (stR S1 167 (nw S1)) J T) := fun S1 hf => by
        rw [m_isN (S1 := stR S1 167 (nw S1)) (J := J) (p := nI k) hB (by rw [stR_eq, nw14, hf 167 (by decide)]) (by rw [stR_ne (by omega)]; exact hf 170 (by decide)), hok]; rfl
      have hj : j = 0 ∨ j = 1 := by omega
      rcases hj with rfl | rfl
      · refine bth_q h (v := S 170 (19 + 2 * k)) (tr := nI 0) (cq_no ?_) (fun S1 hf => mq_no (X := nw S1) ?_ up_eq (nw_q S1)) n0_4
        · rw [← hy.2.1.2.2.1 k hk]
          simp (disch := omega) only [gX10_name, fX10_name_0, fX10_name_2, fX10_name_5, fX10_name_8, fX10_name_12, fX10_name_17, fX10_name_19, fX10_name_22, fX10_name_23, fX10_name_28, fX10_name_40, fX10_name_49, fX10_name_52, lt_isO, kI_1, lt_f9, tl_f11 b1, tl_r11 b1, lt_f8, Option.bind_some, n35, n9, n19, n51, n59, nI_add, ix2, ix8, ix22, ix5, ↓reduceIte, c_lacksName b1 b4, hok, Bool.not_true, bI_f, n0_0, nI_lt0, lt_eq, show ¬ 1 < 0 by omega, c_answer]
        · rw [← hf 170 (by decide)]
          simp (disch := omega) only [gX11_name, fX11_name_0, fX11_name_1, fX11_name_4, fX11_name_6, fX11_name_9, fX11_name_12, fX11_name_15, fX11_name_18, fX11_name_21, fX11_name_23, fX11_name_26, fX11_name_27, fX11_name_31, fX11_name_45, fX11_name_54, mo_isO, kI_0, kI_1, mo_f15, mo_r15, kB_19, kI_2, mo_f19, mo_r19, kB_14, Option.bind_some, n35, n9, n19, n51, n59, nI_add, ix2, ix8, ix22, ix5, ↓reduceIte, hanew, hip S1 hf, n1_0, c_in, hin, bI_t, n0_0, stR_ne (show 170 ≠ 167 by omega)]
      · refine bth_q h (v := S 174 (14 + k)) (tr := nI 0) (cq_no ?_) (fun S1 hf => mq_no (X := nw S1) ?_ up_eq (nw_q S1)) n0_4
        · rw [← hy.2.2.2.2.1.2.2 k hk]
          simp (disch := omega) only [gX10_name, fX10_name_0, fX10_name_2, fX10_name_5, fX10_name_8, fX10_name_12, fX10_name_17, fX10_name_19, fX10_name_22, fX10_name_23, fX10_name_28, fX10_name_40, fX10_name_49, fX10_name_52, lt_isO, kI_1, lt_f9, tl_f11 b1, tl_r11 b1, lt_f8, pl_f2 plA_139, pl_r2 plA_139, Option.bind_some, n35, n9, n19, n51, n59, nI_add, ix2, ix8, ix22, ix5, ↓reduceIte, c_lacksName b1 b4, hok, Bool.not_true, bI_f, n0_0, n1_0, nI_lt0, lt_eq, Nat.lt_irrefl, c_answer]
        · rw [← hf 174 (by decide)]
          simp (disch := omega) only [gX11_name, fX11_name_0, fX11_name_1, fX11_name_4, fX11_name_6, fX11_name_9, fX11_name_12, fX11_name_15, fX11_name_18, fX11_name_21, fX11_name_23, fX11_name_26, fX11_name_27, fX11_name_31, fX11_name_45, fX11_name_54, mo_isO, kI_0, kI_1, mo_f15, mo_r15, kB_19, kI_2, mo_f19, mo_r19, kB_14, Option.bind_some, n35, n9, n19, n51, n59, nI_add, ix2, ix8, ix22, ix5, ↓reduceIte, hanew, hip S1 hf, n1_0, c_in, hin, bI_t, rw_r rwA_174, stR_ne (show 174 ≠ 167 by omega)]
set_option maxRecDepth 100000 in
set_option maxHeartbeats 400000 in
theorem q_person (h : Rl S T) (p what : Int32) : bth (fun h => gX10_person 0 p what h) (fun h => gX11_person 167 p what h) S J T := by
  obtain ⟨ht, P, N, F, U, E, hB⟩ := Rl_bas h
  obtain ⟨b1, b2, b3, b4, b5, b6, b7, b8, b9, b10⟩ := id hB
  cases hok : okB' p P with
  | false =>
    refine bth_q h (v := m1) (tr := nI 1) (cq_no ?_) (fun S1 hf => mq_no (X := up (nw S1) 11 (nI 1)) ?_ up_eq (nw_p S1 _)) n1_4
    · simp (disch := omega) only [gX10_person, fX10_person_0, fX10_person_2, fX10_person_5, fX10_person_8, fX10_person_10, fX10_person_13, fX10_person_14, fX10_person_15, fX10_person_52, fX10_person_62, fX10_person_65, fX10_person_66, fX10_person_76, fX10_person_79, fX10_person_80, fX10_person_90, fX10_person_93, fX10_person_94, fX10_person_104, fX10_person_107, fX10_person_108, fX10_person_120, fX10_person_123, fX10_person_124, fX10_person_136, fX10_person_139, fX10_person_140, fX10_person_142, fX10_person_145, lt_isO, kI_1, kc0, kc1, kc2, kc3, kc4, kc5, kc6, kc7, kc8, kc9, kc10, kc11, lt_f8, lt_f9, tl_f9 b1, tl_r9 b1, tl_f10 b1, tl_r10 b1, Option.bind_some, n35, n9, n19, n51, n59, nI_add, ix2, ix8, ix22, ix5, ↓reduceIte, c_lacksPerson b1 b3, hok, Bool.not_false, bI_t, n1_0, c_refuse]
    · have hanew : gX11_anew 167 (hp S1 J T) = some (hp (stR S1 167 (nw S1)) J T) := c_anew
      have hip := m_isP (S1 := stR S1 167 (nw S1)) (J := J) (p := p) hB (by rw [stR_eq, nw14, hf 167 (by decide)]) (by rw [stR_ne (by omega)]; exact hf 170 (by decide))
      rw [hok] at hip
      simp (disch := omega) only [gX11_person, fX11_person_0, fX11_person_1, fX11_person_4, fX11_person_6, fX11_person_9, fX11_person_12, fX11_person_15, fX11_person_18, fX11_person_21, fX11_person_23, fX11_person_26, fX11_person_27, fX11_person_28, fX11_person_64, fX11_person_71, fX11_person_85, fX11_person_97, fX11_person_106, fX11_person_118, mo_isO, kI_0, kI_5, kI_1, kc0, kc1, kc2, kc3, kc4, kc5, kc6, kc7, kc8, kc9, kc10, kc11, mo_f19, mo_r19, mo_f15, mo_r15, kB_9, kI_2, kB_10, kB_11, Option.bind_some, n35, n9, n19, n51, n59, nI_add, ix2, ix8, ix22, ix5, ↓reduceIte, hanew, hip, bI_f, n0_0, c_no, stR_stR, stR_eq]
  | true =>
    obtain rfl := ok_yes hB hok
    obtain ⟨k, hk, rfl⟩ := okB_t (by omega) hok
    have hy := b9 rfl
    have hanew : ∀ S1 : Mem, gX11_anew 167 (hp S1 J T) = some (hp (stR S1 167 (nw S1)) J T) := fun S1 => c_anew
    have hip : ∀ S1, fr S S1 CL → gX11_isPerson 167 (nI k) (hp (stR S1 167 (nw S1)) J T) = some (nI 1, hp (stR S1 167 (nw S1)) J T) := fun S1 hf => by
      rw [m_isP (S1 := stR S1 167 (nw S1)) (J := J) (p := nI k) hB (by rw [stR_eq, nw14, hf 167 (by decide)]) (by rw [stR_ne (by omega)]; exact hf 170 (by decide)), hok]; rfl
    cases hin : inB what (nI 0) (nI 5) with
    | false =>
      refine bth_q h (v := m1) (tr := nI 1) (cq_no ?_) (fun S1 hf => mq_no (X := up (nw S1) 11 (nI 1)) ?_ up_eq (nw_p S1 _)) n1_4
      · simp (disch := omega) only [gX10_person, fX10_person_0, fX10_person_2, fX10_person_5, fX10_person_8, fX10_person_10, fX10_person_13, fX10_person_14, fX10_person_15, fX10_person_52, fX10_person_62, fX10_person_65, fX10_person_66, fX10_person_76, fX10_person_79, fX10_person_80, fX10_person_90, fX10_person_93, fX10_person_94, fX10_person_104, fX10_person_107, fX10_person_108, fX10_person_120, fX10_person_123, fX10_person_124, fX10_person_136, fX10_person_139, fX10_person_140, fX10_person_142, fX10_person_145, lt_isO, kI_1, kc0, kc1, kc2, kc3, kc4, kc5, kc6, kc7, kc8, kc9, kc10, kc11, lt_f8, lt_f9, tl_f9 b1, tl_r9 b1, tl_f10 b1, tl_r10 b1, Option.bind_some, n35, n9, n19, n51, n59, nI_add, ix2, ix8, ix22, ix5, ↓reduceIte, c_lacksPerson b1 b3, hok, Bool.not_true, bI_f, n0_0, inB_f hin, c_refuse]
      · simp (disch := omega) only [gX11_person, fX11_person_0, fX11_person_1, fX11_person_4, fX11_person_6, fX11_person_9, fX11_person_12, fX11_person_15, fX11_person_18, fX11_person_21, fX11_person_23, fX11_person_26, fX11_person_27, fX11_person_28, fX11_person_64, fX11_person_71, fX11_person_85, fX11_person_97, fX11_person_106, fX11_person_118, mo_isO, kI_0, kI_5, kI_1, kc0, kc1, kc2, kc3, kc4, kc5, kc6, kc7, kc8, kc9, kc10, kc11, mo_f19, mo_r19, mo_f15, mo_r15, kB_9, kI_2, kB_10, kB_11, Option.bind_some, n35, n9, n19, n51, n59, nI_add, ix2, ix8, ix22, ix5, ↓reduceIte, hanew, hip S1 hf, n1_0, c_in, hin, bI_f, n0_0, c_no, stR_stR, stR_eq]
    | true =>
      obtain ⟨j, hj0, hj5, rfl⟩ := inB_t (by omega) (by omega) hin
      have hj : j = 0 ∨ j = 1 ∨ j = 2 ∨ j = 3 ∨ j = 4 ∨ j = 5 := by omega
      have ag := hy.2.2.2.2.1
      rcases hj with rfl | rfl | rfl | rfl | rfl | rfl
      · refine bth_q h (v := S 174 k) (tr := nI 0) (cq_no ?_) (fun S1 hf => mq_no (X := nw S1) ?_ up_eq (nw_q S1)) n0_4
        · rw [← (ag.1 k hk).1]
          simp (disch := omega) only [gX10_person, fX10_person_0, fX10_person_2, fX10_person_5, fX10_person_8, fX10_person_10, fX10_person_13, fX10_person_14, fX10_person_15, fX10_person_52, fX10_person_62, fX10_person_65, fX10_person_66, fX10_person_76, fX10_person_79, fX10_person_80, fX10_person_90, fX10_person_93, fX10_person_94, fX10_person_104, fX10_person_107, fX10_person_108, fX10_person_120, fX10_person_123, fX10_person_124, fX10_person_136, fX10_person_139, fX10_person_140, fX10_person_142, fX10_person_145, lt_isO, kI_1, kc0, kc1, kc2, kc3, kc4, kc5, kc6, kc7, kc8, kc9, kc10, kc11, lt_f8, pl_f0 plA_139, pl_r0 plA_139, lt_f9, tl_f9 b1, tl_r9 b1, tl_f10 b1, tl_r10 b1, pl_f1 plA_139, pl_r1 plA_139, pl_g3 plA_139, pl_g4 plA_139, Option.bind_some, n35, n9, n19, n51, n59, nI_add, ix2, ix8, ix22, ix5, ↓reduceIte, c_lacksPerson b1 b3, hok, Bool.not_true, bI_f, n0_0, c_answer]
        · rw [← hf 174 (by decide)]
          simp (disch := omega) only [gX11_person, fX11_person_0, fX11_person_1, fX11_person_4, fX11_person_6, fX11_person_9, fX11_person_12, fX11_person_15, fX11_person_18, fX11_person_21, fX11_person_23, fX11_person_26, fX11_person_27, fX11_person_28, fX11_person_64, fX11_person_71, fX11_person_85, fX11_person_97, fX11_person_106, fX11_person_118, mo_isO, kI_0, kI_5, kI_1, kc0, kc1, kc2, kc3, kc4, kc5, kc6, kc7, kc8, kc9, kc10, kc11, mo_f19, mo_r19, mo_f15, mo_r15, kB_9, kI_2, kB_10, kB_11, Option.bind_some, n35, n9, n19, n51, n59, nI_add, ix2, ix8, ix22, ix5, ↓reduceIte, hanew, hip S1 hf, n1_0, c_in, hin, bI_t, rw_r rwA_174, stR_ne (show 174 ≠ 167 by omega)]
      · refine bth_q h (v := S 170 (10 + 2 * k)) (tr := nI 0) (cq_no ?_) (fun S1 hf => mq_no (X := nw S1) ?_ up_eq (nw_q S1)) n0_4
        · rw [← (hy.2.1.2.1 k hk).2]
          simp (disch := omega) only [gX10_person, fX10_person_0, fX10_person_2, fX10_person_5, fX10_person_8, fX10_person_10, fX10_person_13, fX10_person_14, fX10_person_15, fX10_person_52, fX10_person_62, fX10_person_65, fX10_person_66, fX10_person_76, fX10_person_79, fX10_person_80, fX10_person_90, fX10_person_93, fX10_person_94, fX10_person_104, fX10_person_107, fX10_person_108, fX10_person_120, fX10_person_123, fX10_person_124, fX10_person_136, fX10_person_139, fX10_person_140, fX10_person_142, fX10_person_145, lt_isO, kI_1, kc0, kc1, kc2, kc3, kc4, kc5, kc6, kc7, kc8, kc9, kc10, kc11, lt_f8, pl_f0 plA_139, pl_r0 plA_139, lt_f9, tl_f9 b1, tl_r9 b1, tl_f10 b1, tl_r10 b1, pl_f1 plA_139, pl_r1 plA_139, pl_g3 plA_139, pl_g4 plA_139, Option.bind_some, n35, n9, n19, n51, n59, nI_add, ix2, ix8, ix22, ix5, ↓reduceIte, c_lacksPerson b1 b3, hok, Bool.not_true, bI_f, n0_0, eq_eq, Nat.reduceEqDiff, c_answer]
        · rw [← hf 170 (by decide)]
          simp (disch := omega) only [gX11_person, fX11_person_0, fX11_person_1, fX11_person_4, fX11_person_6, fX11_person_9, fX11_person_12, fX11_person_15, fX11_person_18, fX11_person_21, fX11_person_23, fX11_person_26, fX11_person_27, fX11_person_28, fX11_person_64, fX11_person_71, fX11_person_85, fX11_person_97, fX11_person_106, fX11_person_118, mo_isO, kI_0, kI_5, kI_1, kc0, kc1, kc2, kc3, kc4, kc5, kc6, kc7, kc8, kc9, kc10, kc11, mo_f19, mo_r19, mo_f15, mo_r15, kB_9, kI_2, kB_10, kB_11, Option.bind_some, n35, n9, n19, n51, n59, nI_add, ix2, ix8, ix22, ix5, ↓reduceIte, hanew, hip S1 hf, n1_0, c_in, hin, bI_t, eq_eq, Nat.reduceEqDiff, stR_ne (show 170 ≠ 167 by omega)]
      · refine bth_q h (v := S 170 (9 + 2 * k)) (tr := nI 0) (cq_no ?_) (fun S1 hf => mq_no (X := nw S1) ?_ up_eq (nw_q S1)) n0_4
        · rw [← (hy.2.1.2.1 k hk).1]
          simp (disch := omega) only [gX10_person, fX10_person_0, fX10_person_2, fX10_person_5, fX10_person_8, fX10_person_10, fX10_person_13, fX10_person_14, fX10_person_15, fX10_person_52, fX10_person_62, fX10_person_65, fX10_person_66, fX10_person_76, fX10_person_79, fX10_person_80, fX10_person_90, fX10_person_93, fX10_person_94, fX10_person_104, fX10_person_107, fX10_person_108, fX10_person_120, fX10_person_123, fX10_person_124, fX10_person_136, fX10_person_139, fX10_person_140, fX10_person_142, fX10_person_145, lt_isO, kI_1, kc0, kc1, kc2, kc3, kc4, kc5, kc6, kc7, kc8, kc9, kc10, kc11, lt_f8, pl_f0 plA_139, pl_r0 plA_139, lt_f9, tl_f9 b1, tl_r9 b1, tl_f10 b1, tl_r10 b1, pl_f1 plA_139, pl_r1 plA_139, pl_g3 plA_139, pl_g4 plA_139, Option.bind_some, n35, n9, n19, n51, n59, nI_add, ix2, ix8, ix22, ix5, ↓reduceIte, c_lacksPerson b1 b3, hok, Bool.not_true, bI_f, n0_0, eq_eq, Nat.reduceEqDiff, c_answer]
        · rw [← hf 170 (by decide)]
          simp (disch := omega) only [gX11_person, fX11_person_0, fX11_person_1, fX11_person_4, fX11_person_6, fX11_person_9, fX11_person_12, fX11_person_15, fX11_person_18, fX11_person_21, fX11_person_23, fX11_person_26, fX11_person_27, fX11_person_28, fX11_person_64, fX11_person_71, fX11_person_85, fX11_person_97, fX11_person_106, fX11_person_118, mo_isO, kI_0, kI_5, kI_1, kc0, kc1, kc2, kc3, kc4, kc5, kc6, kc7, kc8, kc9, kc10, kc11, mo_f19, mo_r19, mo_f15, mo_r15, kB_9, kI_2, kB_10, kB_11, Option.bind_some, n35, n9, n19, n51, n59, nI_add, ix2, ix8, ix22, ix5, ↓reduceIte, hanew, hip S1 hf, n1_0, c_in, hin, bI_t, eq_eq, Nat.reduceEqDiff, stR_ne (show 170 ≠ 167 by omega)]
      · refine bth_q h (v := S 174 (5 + k)) (tr := nI 0) (cq_no ?_) (fun S1 hf => mq_no (X := nw S1) ?_ up_eq (nw_q S1)) n0_4
        · rw [← (ag.1 k hk).2]
          simp (disch := omega) only [gX10_person, fX10_person_0, fX10_person_2, fX10_person_5, fX10_person_8, fX10_person_10, fX10_person_13, fX10_person_14, fX10_person_15, fX10_person_52, fX10_person_62, fX10_person_65, fX10_person_66, fX10_person_76, fX10_person_79, fX10_person_80, fX10_person_90, fX10_person_93, fX10_person_94, fX10_person_104, fX10_person_107, fX10_person_108, fX10_person_120, fX10_person_123, fX10_person_124, fX10_person_136, fX10_person_139, fX10_person_140, fX10_person_142, fX10_person_145, lt_isO, kI_1, kc0, kc1, kc2, kc3, kc4, kc5, kc6, kc7, kc8, kc9, kc10, kc11, lt_f8, pl_f0 plA_139, pl_r0 plA_139, lt_f9, tl_f9 b1, tl_r9 b1, tl_f10 b1, tl_r10 b1, pl_f1 plA_139, pl_r1 plA_139, pl_g3 plA_139, pl_g4 plA_139, Option.bind_some, n35, n9, n19, n51, n59, nI_add, ix2, ix8, ix22, ix5, ↓reduceIte, c_lacksPerson b1 b3, hok, Bool.not_true, bI_f, n0_0, eq_eq, Nat.reduceEqDiff, c_answer]
        · rw [← hf 174 (by decide)]
          simp (disch := omega) only [gX11_person, fX11_person_0, fX11_person_1, fX11_person_4, fX11_person_6, fX11_person_9, fX11_person_12, fX11_person_15, fX11_person_18, fX11_person_21, fX11_person_23, fX11_person_26, fX11_person_27, fX11_person_28, fX11_person_64, fX11_person_71, fX11_person_85, fX11_person_97, fX11_person_106, fX11_person_118, mo_isO, kI_0, kI_5, kI_1, kc0, kc1, kc2, kc3, kc4, kc5, kc6, kc7, kc8, kc9, kc10, kc11, mo_f19, mo_r19, mo_f15, mo_r15, kB_9, kI_2, kB_10, kB_11, Option.bind_some, n35, n9, n19, n51, n59, nI_add, ix2, ix8, ix22, ix5, ↓reduceIte, hanew, hip S1 hf, n1_0, c_in, hin, bI_t, eq_eq, Nat.reduceEqDiff, rw_r rwA_174, stR_ne (show 174 ≠ 167 by omega)]
      · refine bth_q h (v := (S 174 10 >>> (nI k &&& 31)) &&& nI 1) (tr := nI 0) (cq_no ?_) (fun S1 hf => mq_no (X := nw S1) ?_ up_eq (nw_q S1)) n0_4
        · rw [← ag.2.1 10 (by omega) (by omega)]
          simp (disch := omega) only [gX10_person, fX10_person_0, fX10_person_2, fX10_person_5, fX10_person_8, fX10_person_10, fX10_person_13, fX10_person_14, fX10_person_15, fX10_person_52, fX10_person_62, fX10_person_65, fX10_person_66, fX10_person_76, fX10_person_79, fX10_person_80, fX10_person_90, fX10_person_93, fX10_person_94, fX10_person_104, fX10_person_107, fX10_person_108, fX10_person_120, fX10_person_123, fX10_person_124, fX10_person_136, fX10_person_139, fX10_person_140, fX10_person_142, fX10_person_145, lt_isO, kI_1, kc0, kc1, kc2, kc3, kc4, kc5, kc6, kc7, kc8, kc9, kc10, kc11, lt_f8, pl_f0 plA_139, pl_r0 plA_139, lt_f9, tl_f9 b1, tl_r9 b1, tl_f10 b1, tl_r10 b1, pl_f1 plA_139, pl_r1 plA_139, pl_g3 plA_139, pl_g4 plA_139, Option.bind_some, n35, n9, n19, n51, n59, nI_add, ix2, ix8, ix22, ix5, ↓reduceIte, c_lacksPerson b1 b3, hok, Bool.not_true, bI_f, n0_0, eq_eq, Nat.reduceEqDiff, c_answer]
        · rw [← hf 174 (by decide)]
          simp (disch := omega) only [gX11_person, fX11_person_0, fX11_person_1, fX11_person_4, fX11_person_6, fX11_person_9, fX11_person_12, fX11_person_15, fX11_person_18, fX11_person_21, fX11_person_23, fX11_person_26, fX11_person_27, fX11_person_28, fX11_person_64, fX11_person_71, fX11_person_85, fX11_person_97, fX11_person_106, fX11_person_118, mo_isO, kI_0, kI_5, kI_1, kc0, kc1, kc2, kc3, kc4, kc5, kc6, kc7, kc8, kc9, kc10, kc11, mo_f19, mo_r19, mo_f15, mo_r15, kB_9, kI_2, kB_10, kB_11, Option.bind_some, n35, n9, n19, n51, n59, nI_add, ix2, ix8, ix22, ix5, ↓reduceIte, hanew, hip S1 hf, n1_0, c_in, hin, bI_t, eq_eq, Nat.reduceEqDiff, rw_r rwA_174, stR_ne (show 174 ≠ 167 by omega)]
      · refine bth_q h (v := (S 174 11 >>> (nI k &&& 31)) &&& nI 1) (tr := nI 0) (cq_no ?_) (fun S1 hf => mq_no (X := nw S1) ?_ up_eq (nw_q S1)) n0_4
        · rw [← ag.2.1 11 (by omega) (by omega)]
          simp (disch := omega) only [gX10_person, fX10_person_0, fX10_person_2, fX10_person_5, fX10_person_8, fX10_person_10, fX10_person_13, fX10_person_14, fX10_person_15, fX10_person_52, fX10_person_62, fX10_person_65, fX10_person_66, fX10_person_76, fX10_person_79, fX10_person_80, fX10_person_90, fX10_person_93, fX10_person_94, fX10_person_104, fX10_person_107, fX10_person_108, fX10_person_120, fX10_person_123, fX10_person_124, fX10_person_136, fX10_person_139, fX10_person_140, fX10_person_142, fX10_person_145, lt_isO, kI_1, kc0, kc1, kc2, kc3, kc4, kc5, kc6, kc7, kc8, kc9, kc10, kc11, lt_f8, pl_f0 plA_139, pl_r0 plA_139, lt_f9, tl_f9 b1, tl_r9 b1, tl_f10 b1, tl_r10 b1, pl_f1 plA_139, pl_r1 plA_139, pl_g3 plA_139, pl_g4 plA_139, Option.bind_some, n35, n9, n19, n51, n59, nI_add, ix2, ix8, ix22, ix5, ↓reduceIte, c_lacksPerson b1 b3, hok, Bool.not_true, bI_f, n0_0, eq_eq, Nat.reduceEqDiff, c_answer]
        · rw [← hf 174 (by decide)]
          simp (disch := omega) only [gX11_person, fX11_person_0, fX11_person_1, fX11_person_4, fX11_person_6, fX11_person_9, fX11_person_12, fX11_person_15, fX11_person_18, fX11_person_21, fX11_person_23, fX11_person_26, fX11_person_27, fX11_person_28, fX11_person_64, fX11_person_71, fX11_person_85, fX11_person_97, fX11_person_106, fX11_person_118, mo_isO, kI_0, kI_5, kI_1, kc0, kc1, kc2, kc3, kc4, kc5, kc6, kc7, kc8, kc9, kc10, kc11, mo_f19, mo_r19, mo_f15, mo_r15, kB_9, kI_2, kB_10, kB_11, Option.bind_some, n35, n9, n19, n51, n59, nI_add, ix2, ix8, ix22, ix5, ↓reduceIte, hanew, hip S1 hf, n1_0, c_in, hin, bI_t, eq_eq, Nat.reduceEqDiff, rw_r rwA_174, stR_ne (show 174 ≠ 167 by omega)]
end Q4

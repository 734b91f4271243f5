-- LINES: a person's line, the class
def frT (t : Nat) (S S' : Mem) : Prop := (∀ c, c ∉ LnS t → S' c = S c) ∧ ∀ j, j ≠ 1 → j ≠ 2 → j ≠ 8 → j ≠ 10 → j ≠ 11 → j ≠ 12 → j ≠ 13 → S' 1 j = S 1 j
set_option maxRecDepth 100000 in
set_option maxHeartbeats 400000 in
theorem frT_tr {t : Nat} {S S' S'' : Mem} (h : frT t S S') (q : frT t S' S'') : frT t S S'' := ⟨fun c hc => (q.1 c hc).trans (h.1 c hc), fun j a b c d e f g => (q.2 j a b c d e f g).trans (h.2 j a b c d e f g)⟩
set_option maxRecDepth 100000 in
set_option maxHeartbeats 400000 in
theorem frT_R {t : Nat} {S S' : Mem} (h : frR S S') : frT t S S' := ⟨frR_L h, fun j a b _ c d e f => h.2 j a b c d e f⟩
set_option maxRecDepth 100000 in
set_option maxHeartbeats 400000 in
theorem frT_W {t : Nat} {S S' : Mem} (h : frW S S') : frT t S S' := ⟨frW_L h, h.2⟩
set_option maxRecDepth 100000 in
set_option maxHeartbeats 400000 in
theorem frT_t {t : Nat} {S : Mem} {X : Row} (h1 : t ≠ 1) : frT t S (stR S t X) := ⟨fr_st (fr_rf S _) (by simp [LnS]), fun j _ _ _ _ _ _ _ => by rw [stR_ne (by omega)]⟩
set_option maxRecDepth 100000 in
set_option maxHeartbeats 400000 in
theorem frW_t {t : Nat} {S S' : Mem} (h : frW S S') (ht : 56 ≤ t) : S' t = S t := h.1 t (by simp; omega)
section LN1
variable {S : Mem} {J : MeJ} {T : Nat → Nat} {y : Nat → Nat} {n t s : Nat}
def kdO (v : Int32) (s : Nat) (x : PR Nat) : Prop := match x with
  | .inl e => v = m1 ∧ e = (1, s)
  | .inr k => v = nI k ∧ k < 3
set_option maxRecDepth 100000 in
set_option maxHeartbeats 400000 in
theorem c_kind (h : tC S y n s) : ∃ v, gX8_kindHere 1 (hp S J T) = some (v, hp S J T) ∧ kdO v s (pKd y n s) := by
  unfold gX8_kindHere fX8_kindHere_0 fX8_kindHere_1 fX8_kindHere_3 pKd
  rw [rd_isO, Option.bind_some, c_isW h (by omega), Option.bind_some, show stN 9 = 9 from rfl]
  unfold fX8_kindHere_6
  cases z9 : wdB y n s 9 with
  | true =>
    rw [if_neg (show ¬ bI true = 0 by decide), if_pos rfl]
    unfold fX8_kindHere_9
    exact ⟨nI 0, by rw [kI_0], rfl, by omega⟩
  | false =>
    rw [if_pos (show bI false = 0 by decide), if_neg (by decide)]
    unfold fX8_kindHere_11 fX8_kindHere_12 fX8_kindHere_14
    rw [rd_isO, Option.bind_some, c_isW h (by omega), Option.bind_some, show stN 10 = 10 from rfl]
    unfold fX8_kindHere_17
    cases z10 : wdB y n s 10 with
    | true =>
      rw [if_neg (show ¬ bI true = 0 by decide), if_pos rfl]
      unfold fX8_kindHere_20
      exact ⟨nI 1, by rw [kI_1], rfl, by omega⟩
    | false =>
      rw [if_pos (show bI false = 0 by decide), if_neg (by decide)]
      unfold fX8_kindHere_22 fX8_kindHere_23 fX8_kindHere_25
      rw [rd_isO, Option.bind_some, c_isW h (by omega), Option.bind_some, show stN 11 = 11 from rfl]
      unfold fX8_kindHere_28
      cases z11 : wdB y n s 11 with
      | true =>
        rw [if_neg (show ¬ bI true = 0 by decide), if_pos rfl]
        unfold fX8_kindHere_31 fX8_kindHere_36
        exact ⟨nI 2, by rw [kI_2], rfl, by omega⟩
      | false =>
        rw [if_pos (show bI false = 0 by decide), if_neg (by decide)]
        unfold fX8_kindHere_35 fX8_kindHere_36
        exact ⟨m1, by rw [kI_n], rfl, rfl⟩
set_option maxRecDepth 100000 in
set_option maxHeartbeats 400000 in
theorem c_rPer (htl : tlA t) (ht0 : 56 ≤ t) {R : Row} {W : WL} {c : Nat → Nat} (h : clS S t y n (R, W, c, s)) (hc : c 3 < 5) : ∃ S' b, gX8_readPerson 1 t (hp S J T) = some (b, hp S' J T) ∧ outC S' b (bdP (pNew y n W s) fun l => bdP (pKd y n (nx y n s)) fun kd => bdP (pA y n 12 0 99 (nx y n (nx y n s))) fun h => bdP (pA y n 13 1 9 (nx y n h.2)) fun d => .inr ((up (up (up R (9 + 2 * c 3) (nI kd)) (100 + c 3) (nI h.1)) (10 + 2 * c 3) (nI d.1), W ++ [(s, l, c 3)], upN c 3 (c 3 + 1), nx y n d.2) : PSt)) (fun q => clS S' t y n q) ∧ frT t S S' := by
  obtain ⟨h1, h2, h3, h4, h5, h6, h7⟩ := h
  dsimp only at h1 h2 h3 h4 h5 h6 h7
  have hP := h4 3 (by omega)
  obtain ⟨k3, k4, k5, k6, k7, k8⟩ := id h6
  -- the name
  obtain ⟨S1, b1, u1, u2, u3⟩ := c_newN (J := J) (T := T) h1 h2 (by omega) (ofP := true) (num := c 3) (code := c 3) (by rw [if_pos rfl]) (by rw [if_pos rfl]; exact hc)
  rw [bI_t] at u1
  have e1 : gX8_readPerson 1 t (hp S J T) = fX8_readPerson_11 1 t (nI (c 3)) b1 (hp S1 J T) := by
    unfold gX8_readPerson fX8_readPerson_0 fX8_readPerson_8
    rw [tl_g3 htl, Option.bind_some, hP, rd_isO, Option.bind_some, kI_1, u1, Option.bind_some]
  rw [e1]
  cases hp1 : pNew y n W s with
  | inl e =>
    rw [hp1] at u2
    refine ⟨S1, nI 0, ?_, ⟨rfl, u2.2.1, u2.2.2⟩, frT_W u3⟩
    unfold fX8_readPerson_11
    rw [u2.1, if_pos (show nI 0 = 0 from rfl)]
    unfold fX8_readPerson_14
    rw [kI_0, if_pos o_0]
  | inr l =>
    rw [hp1] at u2
    obtain ⟨p1, p2, p3⟩ := u2
    obtain ⟨v, v1, v2⟩ := c_kind (J := J) (T := T) p2
    have e2 : fX8_readPerson_11 1 t (nI (c 3)) b1 (hp S1 J T) = fX8_readPerson_20 1 t (nI (c 3)) v (hp S1 J T) := by
      unfold fX8_readPerson_11
      rw [p1, if_neg (show ¬ nI 1 = 0 by decide)]
      unfold fX8_readPerson_16 fX8_readPerson_17
      rw [rd_isO, Option.bind_some, v1, Option.bind_some]
    rw [e2]
    show ∃ S' b, _ ∧ outC S' b (bdP (pKd y n (nx y n s)) fun kd => bdP (pA y n 12 0 99 (nx y n (nx y n s))) fun h => bdP (pA y n 13 1 9 (nx y n h.2)) fun d => .inr ((up (up (up R (9 + 2 * c 3) (nI kd)) (100 + c 3) (nI h.1)) (10 + 2 * c 3) (nI d.1), W ++ [(s, l, c 3)], upN c 3 (c 3 + 1), nx y n d.2) : PSt)) _ ∧ _
    cases hp2 : pKd y n (nx y n s) with
    | inl e =>
      rw [hp2] at v2
      obtain ⟨S4, f1, f2, f3, f4⟩ := c_failC (J := J) (T := T) p2 1
      obtain ⟨w1, w2⟩ := v2
      refine ⟨S4, nI 0, ?_, ⟨rfl, by rw [w2]; exact f2, by rw [w2]; exact f3⟩, frT_tr (frT_W u3) (frT_R f4)⟩
      unfold fX8_readPerson_20
      rw [w1, if_pos (show m1 < 0 by decide)]
      unfold fX8_readPerson_25 fX8_readPerson_27
      rw [rd_isO, Option.bind_some, kI_1, f1, Option.bind_some]
      unfold fX8_readPerson_30
      rw [if_pos o_0]
    | inr kd =>
      rw [hp2] at v2
      obtain ⟨w1, w2⟩ := v2
      have q1 := tC_t (t := t) (X := up (S1 t) (9 + 2 * c 3) (nI kd)) p2 (by omega) (by omega)
      have q2 := wrC_t (X := up (S1 t) (9 + 2 * c 3) (nI kd)) p3 ht0
      obtain ⟨S2, a1, a2, a3⟩ := s_stepR (J := J) (T := T) q1
      have q3 := wrC_fr q2 a3
      have e3 : fX8_readPerson_20 1 t (nI (c 3)) v (hp S1 J T) = fX8_readPerson_42 1 t (nI (c 3)) (hp S2 J T) := by
        unfold fX8_readPerson_20
        rw [w1, if_neg (by rw [nI_lt0 (by omega)]; exact fun z => z)]
        unfold fX8_readPerson_31
        rw [tl_f10 htl, Option.bind_some, tl_w10 htl hc, Option.bind_some, stS_R]
        unfold fX8_readPerson_39
        rw [rd_isO, Option.bind_some, a1, Option.bind_some]
      -- hunger
      obtain ⟨S3, b3, x1, x2, x3⟩ := c_fW (J := J) (T := T) a2 (i := 12) (lo := 0) (hi := 99) (by omega) (by omega) (by omega)
      rw [show stN 12 = 12 from rfl] at x2
      have e4 : fX8_readPerson_42 1 t (nI (c 3)) (hp S2 J T) = fX8_readPerson_51 1 t (nI (c 3)) b3 (hp S3 J T) := by
        unfold fX8_readPerson_42 fX8_readPerson_43 fX8_readPerson_45 fX8_readPerson_48
        rw [rd_isO, Option.bind_some, kI_0, kB_99, x1, Option.bind_some]
      rw [e3, e4]
      have f3 : frT t S S3 := frT_tr (frT_tr (frT_W u3) (frT_t (by omega))) (frT_tr (frT_R a3) (frT_R x3))
      show ∃ S' b, _ ∧ outC S' b (bdP (pA y n 12 0 99 (nx y n (nx y n s))) fun h => bdP (pA y n 13 1 9 (nx y n h.2)) fun d => .inr ((up (up (up R (9 + 2 * c 3) (nI kd)) (100 + c 3) (nI h.1)) (10 + 2 * c 3) (nI d.1), W ++ [(s, l, c 3)], upN c 3 (c 3 + 1), nx y n d.2) : PSt)) _ ∧ _
      cases hp3 : pA y n 12 0 99 (nx y n (nx y n s)) with
      | inl e =>
        rw [hp3] at x2
        refine ⟨S3, nI 0, ?_, ⟨rfl, x2.2.1, x2.2.2⟩, f3⟩
        unfold fX8_readPerson_51
        rw [x2.1, if_pos (show nI 0 = 0 from rfl)]
        unfold fX8_readPerson_54
        rw [kI_0, if_pos o_0]
      | inr hu =>
        rw [hp3] at x2
        obtain ⟨y1, y2, y3, y4⟩ := x2
        have q4 := tC_t (t := t) (X := up (S3 t) (100 + c 3) (nI hu.1)) y2 (by omega) (by omega)
        have q5 := wrC_t (X := up (S3 t) (100 + c 3) (nI hu.1)) (wrC_fr q3 x3) ht0
        obtain ⟨S4, c1, c2, c3⟩ := s_stepR (J := J) (T := T) q4
        have q6 := wrC_fr q5 c3
        have e5 : fX8_readPerson_51 1 t (nI (c 3)) b3 (hp S3 J T) = fX8_readPerson_70 1 t (nI (c 3)) (hp S4 J T) := by
          unfold fX8_readPerson_51
          rw [y1, if_neg (show ¬ nI 1 = 0 by decide)]
          unfold fX8_readPerson_56
          rw [tl_f8 htl, Option.bind_some, rd_g13, Option.bind_some, y3, tl_w8 htl hc, Option.bind_some, stS_R]
          unfold fX8_readPerson_67
          rw [rd_isO, Option.bind_some, c1, Option.bind_some]
        -- need
        obtain ⟨S5, b5, z1, z2, z3⟩ := c_fW (J := J) (T := T) c2 (i := 13) (lo := 1) (hi := 9) (by omega) (by omega) (by omega)
        rw [show stN 13 = 13 from rfl] at z2
        have e6 : fX8_readPerson_70 1 t (nI (c 3)) (hp S4 J T) = fX8_readPerson_79 1 t (nI (c 3)) b5 (hp S5 J T) := by
          unfold fX8_readPerson_70 fX8_readPerson_71 fX8_readPerson_73 fX8_readPerson_76
          rw [rd_isO, Option.bind_some, kI_1, kB_9, z1, Option.bind_some]
        rw [e5, e6]
        have f5 : frT t S S5 := frT_tr f3 (frT_tr (frT_t (by omega)) (frT_tr (frT_R c3) (frT_R z3)))
        show ∃ S' b, _ ∧ outC S' b (bdP (pA y n 13 1 9 (nx y n hu.2)) fun d => .inr ((up (up (up R (9 + 2 * c 3) (nI kd)) (100 + c 3) (nI hu.1)) (10 + 2 * c 3) (nI d.1), W ++ [(s, l, c 3)], upN c 3 (c 3 + 1), nx y n d.2) : PSt)) _ ∧ _
        cases hp4 : pA y n 13 1 9 (nx y n hu.2) with
        | inl e =>
          rw [hp4] at z2
          refine ⟨S5, nI 0, ?_, ⟨rfl, z2.2.1, z2.2.2⟩, f5⟩
          unfold fX8_readPerson_79
          rw [z2.1, if_pos (show nI 0 = 0 from rfl)]
          unfold fX8_readPerson_82
          rw [kI_0, if_pos o_0]
        | inr nd =>
          rw [hp4] at z2
          obtain ⟨r1, r2, r3, r4⟩ := z2
          have et5 : S5 t = up (up (S t) (9 + 2 * c 3) (nI kd)) (100 + c 3) (nI hu.1) := by
            rw [z3.1 t (by omega), c3.1 t (by omega), stR_eq, x3.1 t (by omega), a3.1 t (by omega), stR_eq, frW_t u3 ht0]
          have q7 := tC_t (t := t) (X := up (up (S5 t) (10 + 2 * c 3) (nI nd.1)) 3 (nI (c 3 + 1))) r2 (by omega) (by omega)
          have q8 := wrC_t (X := up (up (S5 t) (10 + 2 * c 3) (nI nd.1)) 3 (nI (c 3 + 1))) (wrC_fr q6 z3) ht0
          obtain ⟨S6, d1, d2, d3⟩ := s_stepR (J := J) (T := T) q7
          have f6 : frT t S S6 := frT_tr f5 (frT_tr (frT_t (by omega)) (frT_R d3))
          have et : S6 t = up (up (up (up (S t) (9 + 2 * c 3) (nI kd)) (100 + c 3) (nI hu.1)) (10 + 2 * c 3) (nI nd.1)) 3 (nI (c 3 + 1)) := by
            rw [d3.1 t (by omega), stR_eq, et5]
          refine ⟨S6, nI 1, ?_, ⟨rfl, d2, wrC_fr q8 d3, ?_, fun j hj => ?_, ?_, ?_, fun j hj => ?_⟩, f6⟩
          · unfold fX8_readPerson_79
            rw [r1, if_neg (show ¬ nI 1 = 0 by decide)]
            unfold fX8_readPerson_84
            rw [tl_f9 htl, Option.bind_some, rd_g13, Option.bind_some, r3, tl_w9 htl hc, Option.bind_some, stS_R, tl_g3 htl, Option.bind_some, stR_eq, up_ne (by omega), et5, up_ne (by omega), up_ne (by omega), hP, kI_1, nI_add, tl_p3 htl, Option.bind_some, stS_R, stR_stR, stR_eq, ← et5]
            unfold fX8_readPerson_105
            rw [rd_isO, Option.bind_some, d1, Option.bind_some]
            unfold fX8_readPerson_108
            rw [kI_1, if_pos o_1]
          · show (W ++ [(s, l, c 3)]).length = upN c 3 (c 3 + 1) 3 + upN c 3 (c 3 + 1) 4
            rw [List.length_append, upN_eq, upN_ne (by omega), h3]
            show _ + 1 = _
            omega
          · show _ = nI (upN c 3 (c 3 + 1) j)
            rw [et]
            by_cases j3 : j = 3
            · rw [j3, up_eq, upN_eq]
            · rw [up_ne j3, upN_ne j3, up_ne (by omega), up_ne (by omega), up_ne (by omega)]
              exact h4 j hj
          · show S6 1 14 = nI (upN c 3 (c 3 + 1) 8)
            rw [upN_ne (by omega), f6.2 14 (by omega) (by omega) (by omega) (by omega) (by omega) (by omega) (by omega)]
            exact h5
          · exact ⟨by show upN c 3 (c 3 + 1) 3 ≤ 5; rw [upN_eq]; omega, k4, k5, k6, k7, k8⟩
          · show _ = up (up (up R (9 + 2 * c 3) (nI kd)) (100 + c 3) (nI hu.1)) (10 + 2 * c 3) (nI nd.1) j
            have hj' : inD (upN c 3 (c 3 + 1)) j := hj
            unfold inD at hj'
            rw [upN_eq, upN_ne (show 4 ≠ 3 by omega), upN_ne (show 5 ≠ 3 by omega), upN_ne (show 6 ≠ 3 by omega), upN_ne (show 7 ≠ 3 by omega)] at hj'
            rw [et, up_ne (by omega)]
            by_cases j1 : j = 10 + 2 * c 3
            · rw [j1, up_eq, up_eq]
            · rw [up_ne j1, up_ne j1]
              by_cases j2 : j = 100 + c 3
              · rw [j2, up_eq, up_eq]
              · rw [up_ne j2, up_ne j2]
                by_cases j4 : j = 9 + 2 * c 3
                · rw [j4, up_eq, up_eq]
                · rw [up_ne j4, up_ne j4]
                  exact h7 j (by unfold inD; omega)
end LN1

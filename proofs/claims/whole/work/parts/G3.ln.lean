-- LINES: a fast's, an unsure's, a heard's line, the class
section LN3
variable {S : Mem} {J : MeJ} {T : Nat → Nat} {y : Nat → Nat} {n t s : Nat}
set_option maxRecDepth 100000 in
set_option maxHeartbeats 400000 in
theorem c_rFst (htl : tlA t) (ht0 : 56 ≤ t) {R : Row} {W : WL} {c : Nat → Nat} (h : clS S t y n (R, W, c, s)) (hc : c 5 < 8) (hv : ∀ k, k < c 5 → ∃ v, v < 5 ∧ R (35 + 2 * k) = nI v) : ∃ S' b, gX8_readFast 1 t (hp S J T) = some (b, hp S' J T) ∧ outC S' b (bdP (pTd y n W 0 4 s) fun p => bdP (pA y n 16 1 60 (nx y n s)) fun d => if anyR2 R 35 (nI p) (nI d.1) (c 5) then .inl (3, d.2) else .inr ((up (up R (35 + 2 * c 5) (nI p)) (36 + 2 * c 5) (nI d.1), W, upN c 5 (c 5 + 1), nx y n d.2) : PSt)) (fun q => clS S' t y n q) ∧ frT t S S' := by
  obtain ⟨h1, h2, h3, h4, h5, h6, h7⟩ := h
  dsimp only at h1 h2 h3 h4 h5 h6 h7
  have hP := h4 5 (by omega)
  obtain ⟨k3, k4, k5, k6, k7, k8⟩ := id h6
  obtain ⟨S1, v, u1, u2, u3⟩ := c_toldN (J := J) (T := T) h1 h2 (ofP := true) (lo := 0) (hi := 4) (m := 5) rfl rfl rfl
  rw [bI_t] at u1
  have e1 : gX8_readFast 1 t (hp S J T) = fX8_readFast_5 1 t v (hp S1 J T) := by
    unfold gX8_readFast fX8_readFast_0 fX8_readFast_2
    rw [rd_isO, Option.bind_some, kI_1, u1, Option.bind_some]
  rw [e1]
  cases hp1 : pTd y n W 0 4 s with
  | inl e =>
    rw [hp1] at u2
    refine ⟨S1, nI 0, ?_, ⟨rfl, u2.2.1, u2.2.2⟩, frT_R u3⟩
    unfold fX8_readFast_5
    rw [u2.1, if_pos (show m1 < 0 by decide)]
    unfold fX8_readFast_10
    rw [kI_0, if_pos o_0]
  | inr p =>
    rw [hp1] at u2
    obtain ⟨p1, p2, i, p3, p4, p5⟩ := u2
    rw [p1]
    obtain ⟨S2, a1, a2, a3⟩ := s_stepR (J := J) (T := T) h1
    obtain ⟨S3, b3, v1, v2, v3⟩ := c_fW (J := J) (T := T) a2 (i := 16) (lo := 1) (hi := 60) (by omega) (by omega) (by omega)
    rw [show stN 16 = 16 from rfl] at v2
    have e2 : fX8_readFast_5 1 t v (hp S J T) = fX8_readFast_32 1 t (nI p) b3 (hp S3 J T) := by
      unfold fX8_readFast_5
      rw [p4, if_neg (by rw [nI_lt0 (by omega)]; exact fun z => z)]
      unfold fX8_readFast_12
      rw [rd_f7, Option.bind_some, rd_r7 p3, Option.bind_some, p5]
      unfold fX8_readFast_20
      rw [rd_isO, Option.bind_some, a1, Option.bind_some]
      unfold fX8_readFast_23 fX8_readFast_24 fX8_readFast_26 fX8_readFast_29
      rw [rd_isO, Option.bind_some, kI_1, kB_60, v1, Option.bind_some]
    rw [e2]
    have f3 : frT t S S3 := frT_tr (frT_R a3) (frT_R v3)
    have et3 : S3 t = S t := by rw [v3.1 t (by omega), a3.1 t (by omega)]
    have w3 := wrC_fr (wrC_fr h2 a3) v3
    show ∃ S' b, _ ∧ outC S' b (bdP (pA y n 16 1 60 (nx y n s)) fun d => if anyR2 R 35 (nI p) (nI d.1) (c 5) then .inl (3, d.2) else .inr ((up (up R (35 + 2 * c 5) (nI p)) (36 + 2 * c 5) (nI d.1), W, upN c 5 (c 5 + 1), nx y n d.2) : PSt)) _ ∧ _
    cases hp2 : pA y n 16 1 60 (nx y n s) with
    | inl e =>
      rw [hp2] at v2
      refine ⟨S3, nI 0, ?_, ⟨rfl, v2.2.1, v2.2.2⟩, f3⟩
      unfold fX8_readFast_32
      rw [v2.1, if_pos (show nI 0 = 0 from rfl)]
      unfold fX8_readFast_35
      rw [kI_0, if_pos o_0]
    | inr d =>
      rw [hp2] at v2
      obtain ⟨y1, y2, y3, y4⟩ := v2
      have ea : bt (fs (S t) (nI d.1) (c 5) 0 (nI 0)) p = anyR2 R 35 (nI p) (nI d.1) (c 5) := by
        rw [bt_fs p2 (c 5) 0 (nI 0) (fun i hi => by rw [h7 _ (by unfold inD; omega)]; exact hv i (by omega)) (b_0 p), Nat.zero_add]
        exact anyR2_cg _ (fun i hi => ⟨h7 _ (by unfold inD; omega), h7 _ (by unfold inD; omega)⟩)
      have e3 : fX8_readFast_32 1 t (nI p) b3 (hp S3 J T) = fX8_readFast_45 1 t (nI p) (fs (S t) (nI d.1) (c 5) 0 (nI 0)) (hp S3 J T) := by
        unfold fX8_readFast_32
        rw [y1, if_neg (show ¬ nI 1 = 0 by decide)]
        unfold fX8_readFast_37 fX8_readFast_42
        rw [rd_g13, Option.bind_some, y3, tl_isO htl, Option.bind_some, c_fastingOn htl (F := c 5) (by rw [et3]; exact hP) (by omega), Option.bind_some, et3]
      have e4 : fX8_readFast_45 1 t (nI p) (fs (S t) (nI d.1) (c 5) 0 (nI 0)) (hp S3 J T) = if anyR2 R 35 (nI p) (nI d.1) (c 5) then fX8_readFast_53 1 (hp S3 J T) else fX8_readFast_59 1 t (nI p) (hp S3 J T) := by
        unfold fX8_readFast_45
        by_cases zb : bt (fs (S t) (nI d.1) (c 5) 0 (nI 0)) p = true
        · rw [kI_1, if_pos ((bt_eq (show p < 32 by omega)).mpr zb), if_pos (by rw [← ea]; exact zb)]
        · rw [kI_1, if_neg (fun z => zb ((bt_eq (show p < 32 by omega)).mp z)), if_neg (by rw [← ea]; exact zb)]
      rw [e3, e4]
      show ∃ S' b, _ ∧ outC S' b (if anyR2 R 35 (nI p) (nI d.1) (c 5) then .inl (3, d.2) else .inr ((up (up R (35 + 2 * c 5) (nI p)) (36 + 2 * c 5) (nI d.1), W, upN c 5 (c 5 + 1), nx y n d.2) : PSt)) _ ∧ _
      cases za : anyR2 R 35 (nI p) (nI d.1) (c 5) with
      | true =>
        rw [if_pos rfl, if_pos rfl]
        obtain ⟨S4, g1, g2, g3, g4⟩ := c_failC (J := J) (T := T) y2 3
        refine ⟨S4, nI 0, ?_, ⟨rfl, g2, g3⟩, frT_tr f3 (frT_R g4)⟩
        unfold fX8_readFast_53 fX8_readFast_55
        rw [rd_isO, Option.bind_some, kI_3, g1, Option.bind_some]
        unfold fX8_readFast_58
        rw [if_pos o_0]
      | false =>
        rw [if_neg (by decide), if_neg (by decide)]
        have q7 := tC_t (t := t) (X := up (up (up (S3 t) (35 + 2 * c 5) (nI p)) (36 + 2 * c 5) (nI d.1)) 5 (nI (c 5 + 1))) y2 (by omega) (by omega)
        have q8 := wrC_t (X := up (up (up (S3 t) (35 + 2 * c 5) (nI p)) (36 + 2 * c 5) (nI d.1)) 5 (nI (c 5 + 1))) w3 ht0
        obtain ⟨S6, d1, d2, d3⟩ := s_stepR (J := J) (T := T) q7
        have f6 : frT t S S6 := frT_tr f3 (frT_tr (frT_t (by omega)) (frT_R d3))
        have et : S6 t = up (up (up (S t) (35 + 2 * c 5) (nI p)) (36 + 2 * c 5) (nI d.1)) 5 (nI (c 5 + 1)) := by
          rw [d3.1 t (by omega), stR_eq, et3]
        refine ⟨S6, nI 1, ?_, ⟨rfl, d2, wrC_fr q8 d3, ?_, fun j hj => ?_, ?_, ?_, fun j hj => ?_⟩, f6⟩
        · skip
          unfold fX8_readFast_59
          rw [tl_f13 htl, Option.bind_some, tl_g5 htl, Option.bind_some, et3, hP, tl_w13 htl hc, Option.bind_some, stS_R, et3, tl_f14 htl, Option.bind_some, tl_g5 htl, Option.bind_some, stR_eq, up_ne (by omega), hP, rd_g13, Option.bind_some, stR_ne (show 1 ≠ t by omega), y3, tl_w14 htl hc, Option.bind_some, stS_R, stR_stR, stR_eq, tl_g5 htl, Option.bind_some, stR_eq, up_ne (by omega), up_ne (by omega), hP, kI_1, nI_add, tl_p5 htl, Option.bind_some, stS_R, stR_stR, stR_eq]
          rw [et3] at d1
          unfold fX8_readFast_93
          rw [rd_isO, Option.bind_some, d1, Option.bind_some]
          unfold fX8_readFast_96
          rw [kI_1, if_pos o_1]
        · show W.length = upN c 5 (c 5 + 1) 3 + upN c 5 (c 5 + 1) 4
          rw [upN_ne (by omega), upN_ne (by omega)]
          exact h3
        · show _ = nI (upN c 5 (c 5 + 1) j)
          rw [et]
          by_cases j3 : j = 5
          · rw [j3, up_eq, upN_eq]
          · rw [up_ne j3, upN_ne j3, up_ne (by omega), up_ne (by omega)]
            exact h4 j hj
        · show S6 1 14 = nI (upN c 5 (c 5 + 1) 8)
          rw [upN_ne (by omega), f6.2 14 (by omega) (by omega) (by omega) (by omega) (by omega) (by omega) (by omega)]
          exact h5
        · exact ⟨k3, k4, by show upN c 5 (c 5 + 1) 5 ≤ 8; rw [upN_eq]; omega, k6, k7, k8⟩
        · show _ = up (up R (35 + 2 * c 5) (nI p)) (36 + 2 * c 5) (nI d.1) j
          have hj' : inD (upN c 5 (c 5 + 1)) j := hj
          unfold inD at hj'
          rw [upN_eq, upN_ne (show 3 ≠ 5 by omega), upN_ne (show 4 ≠ 5 by omega), upN_ne (show 6 ≠ 5 by omega), upN_ne (show 7 ≠ 5 by omega)] at hj'
          rw [et, up_ne (by omega)]
          by_cases j2 : j = 36 + 2 * c 5
          · rw [j2, up_eq, up_eq]
          · rw [up_ne j2, up_ne j2]
            by_cases j4 : j = 35 + 2 * c 5
            · rw [j4, up_eq, up_eq]
            · rw [up_ne j4, up_ne j4]
              exact h7 j (by unfold inD; omega)
set_option maxRecDepth 100000 in
set_option maxHeartbeats 400000 in
theorem c_rHrd (htl : tlA t) (ht0 : 56 ≤ t) {R : Row} {W : WL} {c : Nat → Nat} (h : clS S t y n (R, W, c, s)) (hc : c 7 < 6) : ∃ S' b, gX8_readHeard 1 t (hp S J T) = some (b, hp S' J T) ∧ outC S' b (bdP (pTd y n W 5 12 s) fun p => bdP (pA y n 16 1 60 (nx y n s)) fun d => if anyR R 60 (nI d.1) (c 7) then .inl (3, d.2) else .inr ((up (up R (59 + 2 * c 7) (nI p)) (60 + 2 * c 7) (nI d.1), W, upN c 7 (c 7 + 1), nx y n d.2) : PSt)) (fun q => clS S' t y n q) ∧ frT t S S' := by
  obtain ⟨h1, h2, h3, h4, h5, h6, h7⟩ := h
  dsimp only at h1 h2 h3 h4 h5 h6 h7
  have hP := h4 7 (by omega)
  obtain ⟨k3, k4, k5, k6, k7, k8⟩ := id h6
  obtain ⟨S1, v, u1, u2, u3⟩ := c_toldN (J := J) (T := T) h1 h2 (ofP := false) (lo := 5) (hi := 12) (m := 8) rfl rfl rfl
  rw [bI_f] at u1
  have e1 : gX8_readHeard 1 t (hp S J T) = fX8_readHeard_5 1 t v (hp S1 J T) := by
    unfold gX8_readHeard fX8_readHeard_0 fX8_readHeard_2
    rw [rd_isO, Option.bind_some, kI_0, u1, Option.bind_some]
  rw [e1]
  cases hp1 : pTd y n W 5 12 s with
  | inl e =>
    rw [hp1] at u2
    refine ⟨S1, nI 0, ?_, ⟨rfl, u2.2.1, u2.2.2⟩, frT_R u3⟩
    unfold fX8_readHeard_5
    rw [u2.1, if_pos (show m1 < 0 by decide)]
    unfold fX8_readHeard_10
    rw [kI_0, if_pos o_0]
  | inr p =>
    rw [hp1] at u2
    obtain ⟨p1, p2, i, p3, p4, p5⟩ := u2
    rw [p1]
    obtain ⟨S2, a1, a2, a3⟩ := s_stepR (J := J) (T := T) h1
    obtain ⟨S3, b3, v1, v2, v3⟩ := c_fW (J := J) (T := T) a2 (i := 16) (lo := 1) (hi := 60) (by omega) (by omega) (by omega)
    rw [show stN 16 = 16 from rfl] at v2
    have e2 : fX8_readHeard_5 1 t v (hp S J T) = fX8_readHeard_32 1 t (nI p) b3 (hp S3 J T) := by
      unfold fX8_readHeard_5
      rw [p4, if_neg (by rw [nI_lt0 (by omega)]; exact fun z => z)]
      unfold fX8_readHeard_12
      rw [rd_f7, Option.bind_some, rd_r7 p3, Option.bind_some, p5]
      unfold fX8_readHeard_20
      rw [rd_isO, Option.bind_some, a1, Option.bind_some]
      unfold fX8_readHeard_23 fX8_readHeard_24 fX8_readHeard_26 fX8_readHeard_29
      rw [rd_isO, Option.bind_some, kI_1, kB_60, v1, Option.bind_some]
    rw [e2]
    have f3 : frT t S S3 := frT_tr (frT_R a3) (frT_R v3)
    have et3 : S3 t = S t := by rw [v3.1 t (by omega), a3.1 t (by omega)]
    have w3 := wrC_fr (wrC_fr h2 a3) v3
    show ∃ S' b, _ ∧ outC S' b (bdP (pA y n 16 1 60 (nx y n s)) fun d => if anyR R 60 (nI d.1) (c 7) then .inl (3, d.2) else .inr ((up (up R (59 + 2 * c 7) (nI p)) (60 + 2 * c 7) (nI d.1), W, upN c 7 (c 7 + 1), nx y n d.2) : PSt)) _ ∧ _
    cases hp2 : pA y n 16 1 60 (nx y n s) with
    | inl e =>
      rw [hp2] at v2
      refine ⟨S3, nI 0, ?_, ⟨rfl, v2.2.1, v2.2.2⟩, f3⟩
      unfold fX8_readHeard_32
      rw [v2.1, if_pos (show nI 0 = 0 from rfl)]
      unfold fX8_readHeard_35
      rw [kI_0, if_pos o_0]
    | inr d =>
      rw [hp2] at v2
      obtain ⟨y1, y2, y3, y4⟩ := v2
      have ea : anyR (S t) 60 (nI d.1) (c 7) = anyR R 60 (nI d.1) (c 7) := anyR_cg _ (fun i hi => h7 _ (by unfold inD; omega))
      have e3 : fX8_readHeard_32 1 t (nI p) b3 (hp S3 J T) = fX8_readHeard_45 1 t (nI p) (bI (anyR R 60 (nI d.1) (c 7))) (hp S3 J T) := by
        unfold fX8_readHeard_32
        rw [y1, if_neg (show ¬ nI 1 = 0 by decide)]
        unfold fX8_readHeard_37 fX8_readHeard_42
        rw [rd_g13, Option.bind_some, y3, tl_isO htl, Option.bind_some, c_isHd htl (F := c 7) (by rw [et3]; exact hP) (by omega), Option.bind_some, et3, ea]
      have e4 : fX8_readHeard_45 1 t (nI p) (bI (anyR R 60 (nI d.1) (c 7))) (hp S3 J T) = if anyR R 60 (nI d.1) (c 7) then fX8_readHeard_48 1 (hp S3 J T) else fX8_readHeard_54 1 t (nI p) (hp S3 J T) := by
        unfold fX8_readHeard_45
        cases anyR R 60 (nI d.1) (c 7) with
        | true => rw [if_neg (show ¬ bI true = 0 by decide), if_pos rfl]
        | false => rw [if_pos (show bI false = 0 by decide), if_neg (by decide)]
      rw [e3, e4]
      show ∃ S' b, _ ∧ outC S' b (if anyR R 60 (nI d.1) (c 7) then .inl (3, d.2) else .inr ((up (up R (59 + 2 * c 7) (nI p)) (60 + 2 * c 7) (nI d.1), W, upN c 7 (c 7 + 1), nx y n d.2) : PSt)) _ ∧ _
      cases za : anyR R 60 (nI d.1) (c 7) with
      | true =>
        rw [if_pos rfl, if_pos rfl]
        obtain ⟨S4, g1, g2, g3, g4⟩ := c_failC (J := J) (T := T) y2 3
        refine ⟨S4, nI 0, ?_, ⟨rfl, g2, g3⟩, frT_tr f3 (frT_R g4)⟩
        unfold fX8_readHeard_48 fX8_readHeard_50
        rw [rd_isO, Option.bind_some, kI_3, g1, Option.bind_some]
        unfold fX8_readHeard_53
        rw [if_pos o_0]
      | false =>
        rw [if_neg (by decide), if_neg (by decide)]
        have q7 := tC_t (t := t) (X := up (up (up (S3 t) (59 + 2 * c 7) (nI p)) (60 + 2 * c 7) (nI d.1)) 7 (nI (c 7 + 1))) y2 (by omega) (by omega)
        have q8 := wrC_t (X := up (up (up (S3 t) (59 + 2 * c 7) (nI p)) (60 + 2 * c 7) (nI d.1)) 7 (nI (c 7 + 1))) w3 ht0
        obtain ⟨S6, d1, d2, d3⟩ := s_stepR (J := J) (T := T) q7
        have f6 : frT t S S6 := frT_tr f3 (frT_tr (frT_t (by omega)) (frT_R d3))
        have et : S6 t = up (up (up (S t) (59 + 2 * c 7) (nI p)) (60 + 2 * c 7) (nI d.1)) 7 (nI (c 7 + 1)) := by
          rw [d3.1 t (by omega), stR_eq, et3]
        refine ⟨S6, nI 1, ?_, ⟨rfl, d2, wrC_fr q8 d3, ?_, fun j hj => ?_, ?_, ?_, fun j hj => ?_⟩, f6⟩
        · skip
          unfold fX8_readHeard_54
          rw [tl_f17 htl, Option.bind_some, tl_g7 htl, Option.bind_some, et3, hP, tl_w17 htl hc, Option.bind_some, stS_R, et3, tl_f18 htl, Option.bind_some, tl_g7 htl, Option.bind_some, stR_eq, up_ne (by omega), hP, rd_g13, Option.bind_some, stR_ne (show 1 ≠ t by omega), y3, tl_w18 htl hc, Option.bind_some, stS_R, stR_stR, stR_eq, tl_g7 htl, Option.bind_some, stR_eq, up_ne (by omega), up_ne (by omega), hP, kI_1, nI_add, tl_p7 htl, Option.bind_some, stS_R, stR_stR, stR_eq]
          rw [et3] at d1
          unfold fX8_readHeard_88
          rw [rd_isO, Option.bind_some, d1, Option.bind_some]
          unfold fX8_readHeard_91
          rw [kI_1, if_pos o_1]
        · show W.length = upN c 7 (c 7 + 1) 3 + upN c 7 (c 7 + 1) 4
          rw [upN_ne (by omega), upN_ne (by omega)]
          exact h3
        · show _ = nI (upN c 7 (c 7 + 1) j)
          rw [et]
          by_cases j3 : j = 7
          · rw [j3, up_eq, upN_eq]
          · rw [up_ne j3, upN_ne j3, up_ne (by omega), up_ne (by omega)]
            exact h4 j hj
        · show S6 1 14 = nI (upN c 7 (c 7 + 1) 8)
          rw [upN_ne (by omega), f6.2 14 (by omega) (by omega) (by omega) (by omega) (by omega) (by omega) (by omega)]
          exact h5
        · exact ⟨k3, k4, k5, k6, by show upN c 7 (c 7 + 1) 7 ≤ 6; rw [upN_eq]; omega, k8⟩
        · show _ = up (up R (59 + 2 * c 7) (nI p)) (60 + 2 * c 7) (nI d.1) j
          have hj' : inD (upN c 7 (c 7 + 1)) j := hj
          unfold inD at hj'
          rw [upN_eq, upN_ne (show 3 ≠ 7 by omega), upN_ne (show 4 ≠ 7 by omega), upN_ne (show 5 ≠ 7 by omega), upN_ne (show 6 ≠ 7 by omega)] at hj'
          rw [et, up_ne (by omega)]
          by_cases j2 : j = 60 + 2 * c 7
          · rw [j2, up_eq, up_eq]
          · rw [up_ne j2, up_ne j2]
            by_cases j4 : j = 59 + 2 * c 7
            · rw [j4, up_eq, up_eq]
            · rw [up_ne j4, up_ne j4]
              exact h7 j (by unfold inD; omega)
set_option maxRecDepth 100000 in
set_option maxHeartbeats 400000 in
theorem c_rUns (htl : tlA t) (ht0 : 56 ≤ t) {R : Row} {W : WL} {c : Nat → Nat} (h : clS S t y n (R, W, c, s)) (hc : c 6 < 4) : ∃ S' b, gX8_readUnsure 1 t (hp S J T) = some (b, hp S' J T) ∧ outC S' b (bdP (pTd y n W 0 4 s) fun p => if anyR R 51 (nI p) (c 6) then .inl (3, s) else bdP (pNu y n 0 99 (nx y n s)) fun d => .inr ((up (up R (51 + 2 * c 6) (nI p)) (52 + 2 * c 6) (nI d), W, upN c 6 (c 6 + 1), nx y n (nx y n s)) : PSt)) (fun q => clS S' t y n q) ∧ frT t S S' := by
  obtain ⟨h1, h2, h3, h4, h5, h6, h7⟩ := h
  dsimp only at h1 h2 h3 h4 h5 h6 h7
  have hP := h4 6 (by omega)
  obtain ⟨k3, k4, k5, k6, k7, k8⟩ := id h6
  obtain ⟨S1, v, u1, u2, u3⟩ := c_toldN (J := J) (T := T) h1 h2 (ofP := true) (lo := 0) (hi := 4) (m := 5) rfl rfl rfl
  rw [bI_t] at u1
  have e1 : gX8_readUnsure 1 t (hp S J T) = fX8_readUnsure_5 1 t v (hp S1 J T) := by
    unfold gX8_readUnsure fX8_readUnsure_0 fX8_readUnsure_2
    rw [rd_isO, Option.bind_some, kI_1, u1, Option.bind_some]
  rw [e1]
  cases hp1 : pTd y n W 0 4 s with
  | inl e =>
    rw [hp1] at u2
    refine ⟨S1, nI 0, ?_, ⟨rfl, u2.2.1, u2.2.2⟩, frT_R u3⟩
    unfold fX8_readUnsure_5
    rw [u2.1, if_pos (show m1 < 0 by decide)]
    unfold fX8_readUnsure_10
    rw [kI_0, if_pos o_0]
  | inr p =>
    rw [hp1] at u2
    obtain ⟨p1, p2, i, p3, p4, p5⟩ := u2
    rw [p1]
    have ea : anyR (S t) 51 (nI p) (c 6) = anyR R 51 (nI p) (c 6) := anyR_cg _ (fun i hi => h7 _ (by unfold inD; omega))
    have e3 : fX8_readUnsure_5 1 t v (hp S J T) = if anyR R 51 (nI p) (c 6) then fX8_readUnsure_27 1 (hp S J T) else fX8_readUnsure_33 1 t (nI p) (hp S J T) := by
      unfold fX8_readUnsure_5
      rw [p4, if_neg (by rw [nI_lt0 (by omega)]; exact fun z => z)]
      unfold fX8_readUnsure_12
      rw [rd_f7, Option.bind_some, rd_r7 p3, Option.bind_some, p5]
      unfold fX8_readUnsure_21
      rw [tl_isO htl, Option.bind_some, c_isUn htl (F := c 6) hP (by omega), Option.bind_some, ea]
      unfold fX8_readUnsure_24
      cases anyR R 51 (nI p) (c 6) with
      | true => rw [if_neg (show ¬ bI true = 0 by decide), if_pos rfl]
      | false => rw [if_pos (show bI false = 0 by decide), if_neg (by decide)]
    rw [e3]
    show ∃ S' b, _ ∧ outC S' b (if anyR R 51 (nI p) (c 6) then .inl (3, s) else bdP (pNu y n 0 99 (nx y n s)) fun d => .inr ((up (up R (51 + 2 * c 6) (nI p)) (52 + 2 * c 6) (nI d), W, upN c 6 (c 6 + 1), nx y n (nx y n s)) : PSt)) _ ∧ _
    cases za : anyR R 51 (nI p) (c 6) with
    | true =>
      rw [if_pos rfl, if_pos rfl]
      obtain ⟨S4, g1, g2, g3, g4⟩ := c_failC (J := J) (T := T) h1 3
      refine ⟨S4, nI 0, ?_, ⟨rfl, g2, g3⟩, frT_R g4⟩
      unfold fX8_readUnsure_27 fX8_readUnsure_29
      rw [rd_isO, Option.bind_some, kI_3, g1, Option.bind_some]
      unfold fX8_readUnsure_32
      rw [if_pos o_0]
    | false =>
      rw [if_neg (by decide), if_neg (by decide)]
      obtain ⟨S2, a1, a2, a3⟩ := s_stepR (J := J) (T := T) h1
      obtain ⟨S3, b3, v1, v2, v3⟩ := c_wW (J := J) (T := T) a2 (lo := 0) (hi := 99) (by omega) (by omega)
      have e2 : fX8_readUnsure_33 1 t (nI p) (hp S J T) = fX8_readUnsure_44 1 t (nI p) b3 (hp S3 J T) := by
        unfold fX8_readUnsure_33 fX8_readUnsure_34
        rw [rd_isO, Option.bind_some, a1, Option.bind_some]
        unfold fX8_readUnsure_37 fX8_readUnsure_41
        rw [rd_isO, Option.bind_some, kI_0, kB_99, v1, Option.bind_some]
      rw [e2]
      have f3 : frT t S S3 := frT_tr (frT_R a3) (frT_R v3)
      have et3 : S3 t = S t := by rw [v3.1 t (by omega), a3.1 t (by omega)]
      have w3 := wrC_fr (wrC_fr h2 a3) v3
      cases hp2 : pNu y n 0 99 (nx y n s) with
      | inl e =>
        rw [hp2] at v2
        refine ⟨S3, nI 0, ?_, ⟨rfl, v2.2.1, v2.2.2⟩, f3⟩
        unfold fX8_readUnsure_44
        rw [v2.1, if_pos (show nI 0 = 0 from rfl)]
        unfold fX8_readUnsure_47
        rw [kI_0, if_pos o_0]
      | inr d =>
        rw [hp2] at v2
        obtain ⟨y1, y2, y3, y4⟩ := v2
        have y5 : tC S3 y n (nx y n s) := by rw [y2]; exact a2
        have y6 : S3 1 13 = nI d := by rw [y2]; exact y3
        have e5 : fX8_readUnsure_44 1 t (nI p) b3 (hp S3 J T) = fX8_readUnsure_49 1 t (nI p) (hp S3 J T) := by
          unfold fX8_readUnsure_44
          rw [y1, if_neg (show ¬ nI 1 = 0 by decide)]
        rw [e5]
        have q7 := tC_t (t := t) (X := up (up (up (S3 t) (51 + 2 * c 6) (nI p)) (52 + 2 * c 6) (nI d)) 6 (nI (c 6 + 1))) y5 (by omega) (by omega)
        have q8 := wrC_t (X := up (up (up (S3 t) (51 + 2 * c 6) (nI p)) (52 + 2 * c 6) (nI d)) 6 (nI (c 6 + 1))) w3 ht0
        obtain ⟨S6, d1, d2, d3⟩ := s_stepR (J := J) (T := T) q7
        have f6 : frT t S S6 := frT_tr f3 (frT_tr (frT_t (by omega)) (frT_R d3))
        have et : S6 t = up (up (up (S t) (51 + 2 * c 6) (nI p)) (52 + 2 * c 6) (nI d)) 6 (nI (c 6 + 1)) := by
          rw [d3.1 t (by omega), stR_eq, et3]
        refine ⟨S6, nI 1, ?_, ⟨rfl, d2, wrC_fr q8 d3, ?_, fun j hj => ?_, ?_, ?_, fun j hj => ?_⟩, f6⟩
        · skip
          unfold fX8_readUnsure_49
          rw [tl_f15 htl, Option.bind_some, tl_g6 htl, Option.bind_some, et3, hP, tl_w15 htl hc, Option.bind_some, stS_R, et3, tl_f16 htl, Option.bind_some, tl_g6 htl, Option.bind_some, stR_eq, up_ne (by omega), hP, rd_g13, Option.bind_some, stR_ne (show 1 ≠ t by omega), y6, tl_w16 htl hc, Option.bind_some, stS_R, stR_stR, stR_eq, tl_g6 htl, Option.bind_some, stR_eq, up_ne (by omega), up_ne (by omega), hP, kI_1, nI_add, tl_p6 htl, Option.bind_some, stS_R, stR_stR, stR_eq]
          rw [et3] at d1
          unfold fX8_readUnsure_83
          rw [rd_isO, Option.bind_some, d1, Option.bind_some]
          unfold fX8_readUnsure_86
          rw [kI_1, if_pos o_1]
        · show W.length = upN c 6 (c 6 + 1) 3 + upN c 6 (c 6 + 1) 4
          rw [upN_ne (by omega), upN_ne (by omega)]
          exact h3
        · show _ = nI (upN c 6 (c 6 + 1) j)
          rw [et]
          by_cases j3 : j = 6
          · rw [j3, up_eq, upN_eq]
          · rw [up_ne j3, upN_ne j3, up_ne (by omega), up_ne (by omega)]
            exact h4 j hj
        · show S6 1 14 = nI (upN c 6 (c 6 + 1) 8)
          rw [upN_ne (by omega), f6.2 14 (by omega) (by omega) (by omega) (by omega) (by omega) (by omega) (by omega)]
          exact h5
        · exact ⟨k3, k4, k5, by show upN c 6 (c 6 + 1) 6 ≤ 4; rw [upN_eq]; omega, k7, k8⟩
        · show _ = up (up R (51 + 2 * c 6) (nI p)) (52 + 2 * c 6) (nI d) j
          have hj' : inD (upN c 6 (c 6 + 1)) j := hj
          unfold inD at hj'
          rw [upN_eq, upN_ne (show 3 ≠ 6 by omega), upN_ne (show 4 ≠ 6 by omega), upN_ne (show 5 ≠ 6 by omega), upN_ne (show 7 ≠ 6 by omega)] at hj'
          rw [et, up_ne (by omega)]
          by_cases j2 : j = 52 + 2 * c 6
          · rw [j2, up_eq, up_eq]
          · rw [up_ne j2, up_ne j2]
            by_cases j4 : j = 51 + 2 * c 6
            · rw [j4, up_eq, up_eq]
            · rw [up_ne j4, up_ne j4]
              exact h7 j (by unfold inD; omega)
end LN3

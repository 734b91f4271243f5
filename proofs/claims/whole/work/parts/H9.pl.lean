-- THE TEXT, the reference: a person's line
set_option maxRecDepth 100000 in
set_option maxHeartbeats 400000 in
theorem kd_k1 {y : Nat → Nat} {n s k : Nat} (h : pKd y n s = .inr k) : tkK y n s ≠ 1 := by
  unfold pKd at h
  cases z9 : wdB y n s 9 with
  | true => exact wd_k1 z9
  | false =>
    rw [z9, if_neg (by decide)] at h
    cases z10 : wdB y n s 10 with
    | true => exact wd_k1 z10
    | false =>
      rw [z10, if_neg (by decide)] at h
      cases z11 : wdB y n s 11 with
      | true => exact wd_k1 z11
      | false => rw [z11, if_neg (by decide)] at h; cases h
section RM9
variable {S : Mem} {J : MeJ} {T : Nat → Nat} {y : Nat → Nat} {n s : Nat} {R : Row} {W : WL} {c : Nat → Nat}
set_option maxRecDepth 100000 in
set_option maxHeartbeats 400000 in
theorem c_kdM (h : tM S y n s) (v1 : Int32) : ∃ v, fX11_personLine_20 167 v1 (hp S J T) = fX11_personLine_60 167 v1 v (hp S J T) ∧ kdO v s (pKd y n s) := by
  unfold fX11_personLine_20 fX11_personLine_21 fX11_personLine_23 pKd
  rw [mo_isO, Option.bind_some, c_isWM h (by omega), Option.bind_some, show stN 26 = 9 from rfl]
  unfold fX11_personLine_26
  cases z9 : wdB y n s 9 with
  | true =>
    rw [if_neg (show ¬ bI true = 0 by decide), if_pos rfl]
    unfold fX11_personLine_29
    exact ⟨nI 0, by rw [kI_0], rfl, by omega⟩
  | false =>
    rw [if_pos (show bI false = 0 by decide), if_neg (by decide)]
    unfold fX11_personLine_33 fX11_personLine_34 fX11_personLine_36
    rw [mo_isO, Option.bind_some, c_isWM h (by omega), Option.bind_some, show stN 27 = 10 from rfl]
    unfold fX11_personLine_39
    cases z10 : wdB y n s 10 with
    | true =>
      rw [if_neg (show ¬ bI true = 0 by decide), if_pos rfl]
      unfold fX11_personLine_42
      exact ⟨nI 1, by rw [kI_1], rfl, by omega⟩
    | false =>
      rw [if_pos (show bI false = 0 by decide), if_neg (by decide)]
      unfold fX11_personLine_46 fX11_personLine_47 fX11_personLine_49
      rw [mo_isO, Option.bind_some, c_isWM h (by omega), Option.bind_some, show stN 28 = 11 from rfl]
      unfold fX11_personLine_52
      cases z11 : wdB y n s 11 with
      | true =>
        rw [if_neg (show ¬ bI true = 0 by decide), if_pos rfl]
        unfold fX11_personLine_55
        exact ⟨nI 2, by rw [kI_2], rfl, by omega⟩
      | false =>
        rw [if_pos (show bI false = 0 by decide), if_neg (by decide)]
        unfold fX11_personLine_59
        exact ⟨m1, by rw [kI_n], rfl, rfl⟩
set_option maxRecDepth 100000 in
set_option maxHeartbeats 400000 in
theorem c_perF (h : S 167 13 = nI 1) : gX11_personLine 167 (hp S J T) = some (hp S J T) := by
  unfold gX11_personLine fX11_personLine_0
  rw [mo_g13, Option.bind_some, h, if_neg (show ¬ nI 1 = 0 by decide)]
  rfl
set_option maxRecDepth 100000 in
set_option maxHeartbeats 400000 in
theorem c_per97F (h : S 167 13 = nI 1) {v1 v2 v3 v4 : Int32} : fX11_personLine_97 167 v1 v2 v3 v4 (hp S J T) = some (hp S J T) := by
  unfold fX11_personLine_97
  rw [mo_g13, Option.bind_some, h, if_neg (show ¬ nI 1 = 0 by decide)]
  rfl
set_option maxRecDepth 100000 in
set_option maxHeartbeats 400000 in
theorem c_per87F (h : S 167 13 = nI 1) {v1 v2 v3 : Int32} : fX11_personLine_87 167 v1 v2 v3 (hp S J T) = some (hp S J T) := by
  unfold fX11_personLine_87 fX11_personLine_89 fX11_personLine_91 fX11_personLine_94
  rw [mo_isO, Option.bind_some, c_aftF h, Option.bind_some]
  exact c_per97F h
set_option maxRecDepth 100000 in
set_option maxHeartbeats 400000 in
theorem c_per74F (h : S 167 13 = nI 1) {v1 v2 : Int32} : fX11_personLine_74 167 v1 v2 (hp S J T) = some (hp S J T) := by
  unfold fX11_personLine_74 fX11_personLine_75
  rw [mo_isO, Option.bind_some, c_passF h, Option.bind_some]
  unfold fX11_personLine_78 fX11_personLine_79 fX11_personLine_81 fX11_personLine_84
  rw [mo_isO, Option.bind_some, c_aftF h, Option.bind_some]
  exact c_per87F h
set_option maxRecDepth 100000 in
set_option maxHeartbeats 400000 in
theorem c_per20F (h : S 167 13 = nI 1) {v1 : Int32} : fX11_personLine_20 167 v1 (hp S J T) = some (hp S J T) := by
  unfold fX11_personLine_20 fX11_personLine_21 fX11_personLine_23
  rw [mo_isO, Option.bind_some, c_isWF h, Option.bind_some]
  unfold fX11_personLine_26
  rw [if_pos (show nI 0 = 0 from rfl)]
  unfold fX11_personLine_33 fX11_personLine_34 fX11_personLine_36
  rw [mo_isO, Option.bind_some, c_isWF h, Option.bind_some]
  unfold fX11_personLine_39
  rw [if_pos (show nI 0 = 0 from rfl)]
  unfold fX11_personLine_46 fX11_personLine_47 fX11_personLine_49
  rw [mo_isO, Option.bind_some, c_isWF h, Option.bind_some]
  unfold fX11_personLine_52
  rw [if_pos (show nI 0 = 0 from rfl)]
  unfold fX11_personLine_59 fX11_personLine_60
  rw [if_pos (show kI (-1) < 0 by decide)]
  unfold fX11_personLine_65 fX11_personLine_71
  rw [mo_g4, Option.bind_some, mo_isO, Option.bind_some, c_wrgF h, Option.bind_some]
  exact c_per74F h
set_option maxRecDepth 100000 in
set_option maxHeartbeats 400000 in
theorem c_perM (h : stM S y n (R, W, c, s)) (hi : pIv R W c) (hc : c 3 < 5) : ∃ S', gX11_personLine 167 (hp S J T) = some (hp S' J T) ∧ outM S' (bdP (pNew y n W s) fun l => bdP (pKd y n (nx y n s)) fun kd => bdP (pA y n 12 0 99 (nx y n (nx y n s))) fun h => bdP (pA y n 13 1 9 (nx y n h.2)) fun d => .inr ((up (up (up R (9 + 2 * c 3) (nI kd)) (100 + c 3) (nI h.1)) (10 + 2 * c 3) (nI d.1), W ++ [(s, l, c 3)], upN c 3 (c 3 + 1), nx y n d.2) : PSt)) (fun q => stM S' y n q) ∧ frO S S' := by
  obtain ⟨h1, h2, h3⟩ := h
  dsimp only at h1 h2 h3
  have h13 := h1.2.2.2.1
  have hP := h2.1 3 (by omega)
  obtain ⟨S1, a1, a2, a3⟩ := c_nwN (J := J) (T := T) h1 h3 (code := c 3) (by omega) (fun w hw => by have := hi.2.2.1 w hw; omega)
  have e1 : gX11_personLine 167 (hp S J T) = fX11_personLine_20 167 (nI (c 3)) (hp S1 J T) := by
    unfold gX11_personLine fX11_personLine_0
    rw [mo_g13, Option.bind_some, h13, if_pos (show nI 0 = 0 from rfl)]
    unfold fX11_personLine_8
    rw [mo_f16, Option.bind_some, kI_3, mo_r16 (by omega), Option.bind_some, hP]
    unfold fX11_personLine_17
    rw [mo_isO, Option.bind_some, a1, Option.bind_some]
  rw [e1]
  cases hq0 : pNew y n W s with
  | inl e =>
    rw [hq0] at a2
    have a2' : fTM S1 e := a2
    exact ⟨S1, c_per20F a2'.1, a2', frN_O a3⟩
  | inr l =>
    rw [hq0] at a2
    obtain ⟨a4, a5⟩ := a2
    rw [bdP_r]
    obtain ⟨v, b1, b2⟩ := c_kdM (J := J) (T := T) a4 (nI (c 3))
    rw [b1]
    unfold fX11_personLine_60
    cases hq1 : pKd y n (nx y n s) with
    | inl e =>
      rw [hq1] at b2
      obtain ⟨b3, b4⟩ := b2
      obtain ⟨S4, g1, g2, g3⟩ := c_wrg (J := J) (T := T) a4.2.2.2.1 1 (nx y n s)
      rw [b3, if_pos (show m1 < 0 by decide), bdP_l, b4]
      refine ⟨S4, ?_, g2, frO_tr (frN_O a3) (frM_O g3)⟩
      unfold fX11_personLine_65 fX11_personLine_71
      rw [mo_g4, Option.bind_some, a4.2.2.2.2.1, mo_isO, Option.bind_some, kI_1, g1, Option.bind_some]
      exact c_per74F g2.1
    | inr kd =>
      rw [hq1] at b2
      obtain ⟨b3, b4⟩ := b2
      rw [b3, if_neg (show ¬ nI kd < 0 by rw [nI_lt0 (by omega)]; exact fun q => q), bdP_r]
      obtain ⟨S2, d1, d2, d3⟩ := c_pasM (J := J) (T := T) a4 (kd_k1 hq1)
      obtain ⟨S3, v3, u1, u2, u3⟩ := c_aft (J := J) (T := T) d2 (i := 29) (lo := 0) (hi := 99) (by omega) (by omega) (by omega)
      rw [show stN 29 = 12 from rfl] at u2
      have e2 : fX11_personLine_74 167 (nI (c 3)) (nI kd) (hp S1 J T) = fX11_personLine_87 167 (nI (c 3)) (nI kd) v3 (hp S3 J T) := by
        unfold fX11_personLine_74 fX11_personLine_75
        rw [mo_isO, Option.bind_some, d1, Option.bind_some]
        unfold fX11_personLine_78 fX11_personLine_79 fX11_personLine_81 fX11_personLine_84
        rw [mo_isO, Option.bind_some, kI_0, kB_99, u1, Option.bind_some]
      rw [e2]
      have n3 : frN S S3 := frN_tr (frN_tr a3 (frM_N d3)) (frM_N u3)
      cases hq2 : pA y n 12 0 99 (nx y n (nx y n s)) with
      | inl e =>
        rw [hq2] at u2
        have u2' : fTM S3 e := u2
        exact ⟨S3, c_per87F u2'.1, u2', frN_O n3⟩
      | inr hu =>
        rw [hq2] at u2
        obtain ⟨u4, u5⟩ := u2
        rw [bdP_r]
        obtain ⟨S5, v5, w1, w2, w3⟩ := c_aft (J := J) (T := T) u5 (i := 30) (lo := 1) (hi := 9) (by omega) (by omega) (by omega)
        rw [show stN 30 = 13 from rfl] at w2
        have e3 : fX11_personLine_87 167 (nI (c 3)) (nI kd) v3 (hp S3 J T) = fX11_personLine_97 167 (nI (c 3)) (nI kd) v3 v5 (hp S5 J T) := by
          unfold fX11_personLine_87 fX11_personLine_89 fX11_personLine_91 fX11_personLine_94
          rw [mo_isO, Option.bind_some, kI_1, kB_9, w1, Option.bind_some]
        rw [e3]
        have n5 : frN S S5 := frN_tr n3 (frM_N w3)
        cases hq3 : pA y n 13 1 9 (nx y n hu.2) with
        | inl e =>
          rw [hq3] at w2
          have w2' : fTM S5 e := w2
          exact ⟨S5, c_per97F w2'.1, w2', frN_O n5⟩
        | inr d =>
          rw [hq3] at w2
          obtain ⟨w4, w5⟩ := w2
          rw [bdP_r]
          have hP5 : S5 171 3 = nI (c 3) := by rw [n5.2.1 3 (by omega)]; exact hP
          unfold fX11_personLine_97
          rw [mo_g13, Option.bind_some, w5.2.2.2.1, if_pos (show nI 0 = 0 from rfl)]
          unfold fX11_personLine_107
          rw [mo_f16, Option.bind_some, kB_9, kI_2, ix2, mo_w16 (by omega), Option.bind_some, stS_R, mo_f16, Option.bind_some, kI_1, nI_add, mo_w16 (by omega), Option.bind_some, stS_R, stR_stR, stR_eq, mo_f18, Option.bind_some, mo_w18 (by omega), Option.bind_some, stS_R, mo_f16, Option.bind_some, kI_3, mo_r16 (by omega), Option.bind_some, stR_ne (show 171 ≠ 173 by omega), stR_eq, up_ne (by omega), up_ne (by omega), hP5, nI_add, mo_w16 (by omega), Option.bind_some, stS_R, stR_ne (show 171 ≠ 173 by omega), stR_eq, stR_ne (show 173 ≠ 171 by omega)]
          generalize hS7 : stR (stR (stR S5 171 (up (up (S5 171) (9 + 2 * c 3) (nI kd)) (9 + 2 * c 3 + 1) v5)) 173 (up (S5 173) (c 3) v3)) 171 (up (up (up (S5 171) (9 + 2 * c 3) (nI kd)) (9 + 2 * c 3 + 1) v5) 3 (nI (c 3 + 1))) = S7
          have y7 : S7 171 = up (up (up (S5 171) (9 + 2 * c 3) (nI kd)) (10 + 2 * c 3) (nI d.1)) 3 (nI (c 3 + 1)) := by rw [← hS7, stR_eq, w4, show 9 + 2 * c 3 + 1 = 10 + 2 * c 3 by omega]
          have y73 : S7 173 = up (S5 173) (c 3) (nI hu.1) := by rw [← hS7, stR_ne (by omega), stR_eq, u4]
          have yo : ∀ x, x ≠ 171 → x ≠ 173 → S7 x = S5 x := fun x x1 x2 => by rw [← hS7, stR_ne x1, stR_ne x2, stR_ne x1]
          refine ⟨S7, rfl, ⟨?_, ?_, ?_⟩, frO_tr (frN_O n5) ⟨fun x _ _ x1 x2 => yo x x1 x2, fun j _ => by rw [yo 167 (by omega) (by omega)], kp9_eq (yo 167 (by omega) (by omega)), fun K q1 q2 => ⟨K, q1, by rw [y7, up_ne (by omega), up_ne (by omega), up_ne (by omega)]; exact q2⟩⟩⟩
          · show tM S7 y n (nx y n d.2)
            exact tM_cg w5 (yo _ (by omega) (by omega)) (yo _ (by omega) (by omega)) (yo _ (by omega) (by omega))
          · show rwM S7 (up (up (up R (9 + 2 * c 3) (nI kd)) (100 + c 3) (nI hu.1)) (10 + 2 * c 3) (nI d.1)) (upN c 3 (c 3 + 1))
            obtain ⟨r1, r2, r3, r4, r5, r6⟩ := rwM_N h2 n5
            refine ⟨fun i hi => ?_, fun i q1 q2 => ?_, fun k hk => ?_, fun i q1 q2 => ?_, fun p hq => ?_, fun j q1 q2 => ?_⟩
            · rw [y7]
              by_cases z3 : i = 3
              · rw [z3, up_eq, upN_eq]
              · rw [up_ne z3, upN_ne z3, up_ne (by omega), up_ne (by omega)]; exact r1 i hi
            · rw [y7, up_ne (by omega)]
              by_cases z1 : i = 10 + 2 * c 3
              · rw [z1, up_eq, up_eq]
              · rw [up_ne z1, up_ne z1, up_ne (show i ≠ 100 + c 3 by omega)]
                by_cases z2 : i = 9 + 2 * c 3
                · rw [z2, up_eq, up_eq]
                · rw [up_ne z2, up_ne z2]; exact r2 i q1 q2
            · rw [y7, up_ne (by omega), up_ne (by omega), up_ne (by omega), up_ne (by omega), up_ne (by omega), up_ne (by omega), up_ne (by omega), up_ne (by omega), up_ne (by omega), up_ne (by omega), up_ne (by omega), up_ne (by omega)]; exact r3 k hk
            · rw [y7, up_ne (by omega), up_ne (by omega), up_ne (by omega), up_ne (by omega), up_ne (by omega), up_ne (by omega)]; exact r4 i q1 q2
            · rw [y73, up_ne (show 100 + p ≠ 10 + 2 * c 3 by omega)]
              by_cases z : p = c 3
              · rw [z, up_eq, up_eq]
              · rw [up_ne z, up_ne (by omega), up_ne (by omega)]; exact r5 p hq
            · rw [y73, up_ne (by omega)]; exact r6 j q1 q2
          · show wrM S7 y (W ++ [(s, l, c 3)])
            refine wrM_lo (S := S1) a5 (fun j hj => ?_)
            rw [y7, up_ne (by omega), up_ne (by omega), up_ne (by omega), w3.1 171 (by omega) (by omega), u3.1 171 (by omega) (by omega), d3.1 171 (by omega) (by omega)]
end RM9

-- THE TEXT, the reference: a name's line
set_option maxRecDepth 100000 in
set_option maxHeartbeats 400000 in
theorem td_k {y : Nat → Nat} {n lo hi s p : Nat} {W : WL} (h : pTd y n W lo hi s = .inr p) : tkK y n s ≠ 1 := by
  unfold pTd pNm at h
  by_cases z : tkK y n s = 2 ∧ lsN y n s = none
  · omega
  · rw [if_neg z] at h; cases h
set_option maxRecDepth 100000 in
set_option maxHeartbeats 400000 in
theorem rw_pr {S S' : Mem} {R : Row} {c : Nat → Nat} {a i k : Nat} {x z : Int32} (h : rwM S R c) (ha : 35 ≤ a) (hk : a + 2 * k + 1 < 71) (hi : i < 9) (e1 : S' 171 = up (up (up (S 171) (a + 2 * k) x) (a + 2 * k + 1) z) i (nI (c i + 1))) (e2 : S' 173 = S 173) : rwM S' (up (up R (a + 2 * k) x) (a + 2 * k + 1) z) (upN c i (c i + 1)) := by
  obtain ⟨r1, r2, r3, r4, r5, r6⟩ := h
  refine ⟨fun j hj => ?_, fun j q1 q2 => ?_, fun m hm => ?_, fun j q1 q2 => ?_, fun p hq => ?_, fun j q1 q2 => ?_⟩
  · rw [e1]
    by_cases w : j = i
    · rw [w, up_eq, upN_eq]
    · rw [up_ne w, upN_ne w, up_ne (by omega), up_ne (by omega)]; exact r1 j hj
  · rw [e1, up_ne (by omega), up_ne (by omega), up_ne (by omega), up_ne (by omega), up_ne (by omega)]; exact r2 j q1 q2
  · rw [e1, up_ne (by omega), up_ne (by omega), up_ne (by omega), up_ne (by omega), up_ne (by omega), up_ne (by omega), up_ne (by omega), up_ne (by omega), up_ne (by omega), up_ne (by omega)]; exact r3 m hm
  · rw [e1, up_ne (by omega)]
    by_cases w1 : j = a + 2 * k + 1
    · rw [w1, up_eq, up_eq]
    · rw [up_ne w1, up_ne w1]
      by_cases w2 : j = a + 2 * k
      · rw [w2, up_eq, up_eq]
      · rw [up_ne w2, up_ne w2]; exact r4 j q1 q2
  · rw [e2, up_ne (by omega), up_ne (by omega)]; exact r5 p hq
  · rw [e2]; exact r6 j q1 q2
section RMB
variable {S : Mem} {J : MeJ} {T : Nat → Nat} {y : Nat → Nat} {n s : Nat} {R : Row} {W : WL} {c : Nat → Nat}
set_option maxRecDepth 100000 in
set_option maxHeartbeats 400000 in
theorem c_nHF (h : S 167 13 = nI 1) {lo hi : Int32} : gX11_numberHere 167 lo hi (hp S J T) = some (lo, hp S J T) := by
  unfold gX11_numberHere fX11_numberHere_0
  rw [mo_g13, Option.bind_some, h, if_neg (show ¬ nI 1 = 0 by decide)]
  rfl
set_option maxRecDepth 100000 in
set_option maxHeartbeats 400000 in
theorem c_namF (h : S 167 13 = nI 1) : gX11_nameLine 167 (hp S J T) = some (hp S J T) := by
  unfold gX11_nameLine fX11_nameLine_0
  rw [mo_g13, Option.bind_some, h, if_neg (show ¬ nI 1 = 0 by decide)]
  rfl
set_option maxRecDepth 100000 in
set_option maxHeartbeats 400000 in
theorem c_nam109F (h : S 167 13 = nI 1) {v1 v2 v3 : Int32} : fX11_nameLine_109 167 v1 v2 v3 (hp S J T) = some (hp S J T) := by
  unfold fX11_nameLine_109
  rw [mo_g13, Option.bind_some, h, if_neg (show ¬ nI 1 = 0 by decide)]
  rfl
set_option maxRecDepth 100000 in
set_option maxHeartbeats 400000 in
theorem c_nam96F (h : S 167 13 = nI 1) {v1 v2 : Int32} : fX11_nameLine_96 167 v1 v2 (hp S J T) = some (hp S J T) := by
  unfold fX11_nameLine_96 fX11_nameLine_97
  rw [mo_isO, Option.bind_some, c_passF h, Option.bind_some]
  unfold fX11_nameLine_100 fX11_nameLine_101 fX11_nameLine_103 fX11_nameLine_106
  rw [mo_isO, Option.bind_some, c_aftF h, Option.bind_some]
  exact c_nam109F h
set_option maxRecDepth 100000 in
set_option maxHeartbeats 400000 in
theorem c_nam46F (h : S 167 13 = nI 1) {K : Nat} (hK : S 171 4 = nI K) (hb : K ≤ 8) {v1 v2 : Int32} : fX11_nameLine_46 167 v1 v2 (hp S J T) = some (hp S J T) := by
  unfold fX11_nameLine_46
  rw [kI_0, c_lnmF h hK hb K 0 FU (by omega) (FU_lt (by omega))]
  exact c_nam96F h
set_option maxRecDepth 100000 in
set_option maxHeartbeats 400000 in
theorem c_nam38F (h : S 167 13 = nI 1) {K : Nat} (hK : S 171 4 = nI K) (hb : K ≤ 8) {v1 : Int32} : fX11_nameLine_38 167 v1 (hp S J T) = some (hp S J T) := by
  unfold fX11_nameLine_38 fX11_nameLine_43
  rw [mo_isO, Option.bind_some, c_nHF h, Option.bind_some]
  exact c_nam46F h hK hb
set_option maxRecDepth 100000 in
set_option maxHeartbeats 400000 in
theorem c_nam32F (h : S 167 13 = nI 1) {K : Nat} (hK : S 171 4 = nI K) (hb : K ≤ 8) {v1 : Int32} : fX11_nameLine_32 167 v1 (hp S J T) = some (hp S J T) := by
  unfold fX11_nameLine_32 fX11_nameLine_33 fX11_nameLine_35
  rw [mo_isO, Option.bind_some, c_mustF h, Option.bind_some]
  exact c_nam38F h hK hb
set_option maxRecDepth 100000 in
set_option maxHeartbeats 400000 in
theorem c_namM (h : stM S y n (R, W, c, s)) (hi : pIv R W c) (hc : c 4 < 8) : ∃ S', gX11_nameLine 167 (hp S J T) = some (hp S' J T) ∧ outM S' (bdP (pNew y n W s) fun l => bdP (pA y n 14 0 200 (nx y n s)) fun f => if anyR R 19 (nI f.1) (c 4) then .inl (3, f.2) else bdP (pA y n 15 0 20 (nx y n f.2)) fun w => .inr ((up (up R (19 + 2 * c 4) (nI f.1)) (114 + c 4) (nI w.1), W ++ [(s, l, 5 + c 4)], upN c 4 (c 4 + 1), nx y n w.2) : PSt)) (fun q => stM S' y n q) ∧ frO S S' := by
  obtain ⟨h1, h2, h3⟩ := h
  dsimp only at h1 h2 h3
  have h13 := h1.2.2.2.1
  have hP := h2.1 4 (by omega)
  have hc3 := hi.1.1
  obtain ⟨S1, a1, a2, a3⟩ := c_nwN (J := J) (T := T) h1 h3 (code := 5 + c 4) (by omega) (fun w hw => by have := hi.2.2.1 w hw; omega)
  have e1 : gX11_nameLine 167 (hp S J T) = fX11_nameLine_32 167 (nI (19 + 2 * c 4)) (hp S1 J T) := by
    unfold gX11_nameLine fX11_nameLine_0
    rw [mo_g13, Option.bind_some, h13, if_pos (show nI 0 = 0 from rfl)]
    unfold fX11_nameLine_8
    rw [mo_f16, Option.bind_some, kI_4, mo_r16 (by omega), Option.bind_some, hP, Option.bind_some, mo_r16 (by omega), Option.bind_some, hP, kB_19, kI_2, ix2, kI_5, nI_add]
    unfold fX11_nameLine_29
    rw [mo_isO, Option.bind_some, a1, Option.bind_some]
  rw [e1]
  have hP1 : S1 171 4 = nI (c 4) := by rw [a3.2.1 4 (by omega)]; exact hP
  cases hq0 : pNew y n W s with
  | inl e =>
    rw [hq0] at a2
    have a2' : fTM S1 e := a2
    exact ⟨S1, c_nam32F a2'.1 hP1 (by omega), a2', frN_O a3⟩
  | inr l =>
    rw [hq0] at a2
    obtain ⟨a4, a5⟩ := a2
    rw [bdP_r]
    obtain ⟨S2, b1, b2, b3⟩ := c_must (J := J) (T := T) a4 (i := 31) (by omega)
    rw [show stN 31 = 14 from rfl] at b2
    have e2 : fX11_nameLine_32 167 (nI (19 + 2 * c 4)) (hp S1 J T) = fX11_nameLine_38 167 (nI (19 + 2 * c 4)) (hp S2 J T) := by
      unfold fX11_nameLine_32 fX11_nameLine_33 fX11_nameLine_35
      rw [mo_isO, Option.bind_some, b1, Option.bind_some]
    rw [e2, show pA y n 14 0 200 (nx y n s) = bdP (pW y n 14 (nx y n s)) fun s1 => bdP (pNu y n 0 200 s1) fun v => .inr (v, s1) from rfl]
    have n2 : frN S S2 := frN_tr a3 (frM_N b3)
    have hP2 : S2 171 4 = nI (c 4) := by rw [n2.2.1 4 (by omega)]; exact hP
    cases hq1 : pW y n 14 (nx y n s) with
    | inl e =>
      rw [hq1] at b2
      have b2' : fTM S2 e := b2
      exact ⟨S2, c_nam38F b2'.1 hP2 (by omega), b2', frN_O n2⟩
    | inr s1 =>
      rw [hq1] at b2
      have b2' : tM S2 y n s1 := b2
      rw [bdP_r]
      obtain ⟨S3, v, d1, d2, d3⟩ := c_nHM (J := J) (T := T) b2' (lo := 0) (hi := 200) (by omega) (by omega)
      have e3 : fX11_nameLine_38 167 (nI (19 + 2 * c 4)) (hp S2 J T) = fX11_nameLine_46 167 (nI (19 + 2 * c 4)) v (hp S3 J T) := by
        unfold fX11_nameLine_38 fX11_nameLine_43
        rw [mo_isO, Option.bind_some, kI_0, kS_200, d1, Option.bind_some]
      rw [e3]
      cases hq2 : pNu y n 0 200 s1 with
      | inl e =>
        rw [hq2] at d2
        have d2' : fTM S3 e := d2
        have n3 : frN S S3 := frN_tr n2 (frM_N d3)
        exact ⟨S3, c_nam46F d2'.1 (K := c 4) (by rw [n3.2.1 4 (by omega)]; exact hP) (by omega), d2', frN_O n3⟩
      | inr f =>
        rw [hq2] at d2
        obtain ⟨d4, d5, d6⟩ := d2
        rw [bdP_r, bdP_r, d4, d5]
        dsimp only
        obtain ⟨S4, l1, l2, l3, l4⟩ := c_lnm (J := J) (T := T) (R := R) (x := nI f) (v1 := nI (19 + 2 * c 4)) b2' hP2 (by omega) (fun k hk => by rw [n2.2.1 _ (by omega)]; exact (h2.2.2.1 k (by omega)).1) (by omega) (c 4) 0 FU (by omega) (FU_lt (by omega)) rfl
        have e4 : fX11_nameLine_46 167 (nI (19 + 2 * c 4)) (nI f) (hp S2 J T) = fX11_nameLine_96 167 (nI (19 + 2 * c 4)) (nI f) (hp S4 J T) := by
          unfold fX11_nameLine_46
          rw [kI_0, l1]
        rw [e4]
        cases hq3 : anyR R 19 (nI f) (c 4) with
        | true =>
          have l3' := l3 hq3
          rw [if_pos rfl]
          exact ⟨S4, c_nam96F l3'.1, l3', frN_O (frN_tr n2 (frM_N l4))⟩
        | false =>
          rw [l2 hq3, if_neg (by decide)]
          obtain ⟨S5, g1, g2, g3⟩ := c_pasM (J := J) (T := T) b2' (by omega)
          obtain ⟨S6, v6, w1, w2, w3⟩ := c_aft (J := J) (T := T) g2 (i := 32) (lo := 0) (hi := 20) (by omega) (by omega) (by omega)
          rw [show stN 32 = 15 from rfl] at w2
          have e5 : fX11_nameLine_96 167 (nI (19 + 2 * c 4)) (nI f) (hp S2 J T) = fX11_nameLine_109 167 (nI (19 + 2 * c 4)) (nI f) v6 (hp S6 J T) := by
            unfold fX11_nameLine_96 fX11_nameLine_97
            rw [mo_isO, Option.bind_some, g1, Option.bind_some]
            unfold fX11_nameLine_100 fX11_nameLine_101 fX11_nameLine_103 fX11_nameLine_106
            rw [mo_isO, Option.bind_some, kI_0, kB_20, w1, Option.bind_some]
          rw [e5]
          have n6 : frN S S6 := frN_tr (frN_tr n2 (frM_N g3)) (frM_N w3)
          cases hq4 : pA y n 15 0 20 (nx y n s1) with
          | inl e =>
            rw [hq4] at w2
            have w2' : fTM S6 e := w2
            exact ⟨S6, c_nam109F w2'.1, w2', frN_O n6⟩
          | inr d =>
            rw [hq4] at w2
            obtain ⟨w4, w5⟩ := w2
            rw [bdP_r]
            have hP6 : S6 171 4 = nI (c 4) := by rw [n6.2.1 4 (by omega)]; exact hP
            unfold fX11_nameLine_109
            rw [mo_g13, Option.bind_some, w5.2.2.2.1, if_pos (show nI 0 = 0 from rfl)]
            unfold fX11_nameLine_118
            rw [mo_f16, Option.bind_some, mo_w16 (by omega), Option.bind_some, stS_R, mo_f16, Option.bind_some, kI_1, nI_add, mo_w16 (by omega), Option.bind_some, stS_R, stR_stR, stR_eq, mo_f16, Option.bind_some, kI_4, mo_r16 (by omega), Option.bind_some, stR_eq, up_ne (by omega), up_ne (by omega), hP6, nI_add, mo_w16 (by omega), Option.bind_some, stS_R, stR_stR, stR_eq]
            generalize hS7 : stR S6 171 (up (up (up (S6 171) (19 + 2 * c 4) (nI f)) (19 + 2 * c 4 + 1) v6) 4 (nI (c 4 + 1))) = S7
            have y7 : S7 171 = up (up (up (S6 171) (19 + 2 * c 4) (nI f)) (20 + 2 * c 4) (nI d.1)) 4 (nI (c 4 + 1)) := by rw [← hS7, stR_eq, w4, show 19 + 2 * c 4 + 1 = 20 + 2 * c 4 by omega]
            have yo : ∀ x, x ≠ 171 → S7 x = S6 x := fun x x1 => by rw [← hS7, stR_ne x1]
            refine ⟨S7, rfl, ⟨?_, ?_, ?_⟩, frO_tr (frN_O n6) ⟨fun x _ _ x1 _ => yo x x1, fun j _ => by rw [yo 167 (by omega)], kp9_eq (yo 167 (by omega)), fun K _ _ => ⟨c 4 + 1, by omega, by rw [y7, up_eq]⟩⟩⟩
            · show tM S7 y n (nx y n d.2)
              rw [← hS7]; exact tM_171 w5
            · show rwM S7 (up (up R (19 + 2 * c 4) (nI f)) (114 + c 4) (nI d.1)) (upN c 4 (c 4 + 1))
              obtain ⟨r1, r2, r3, r4, r5, r6⟩ := rwM_N h2 n6
              have y173 : S7 173 = S6 173 := yo 173 (by omega)
              refine ⟨fun i hi => ?_, fun i q1 q2 => ?_, fun k hk => ?_, fun i q1 q2 => ?_, fun p hq => ?_, fun j q1 q2 => ?_⟩
              · rw [y7]
                by_cases z3 : i = 4
                · rw [z3, up_eq, upN_eq]
                · rw [up_ne z3, upN_ne z3, up_ne (by omega), up_ne (by omega)]; exact r1 i hi
              · rw [y7, up_ne (by omega), up_ne (by omega), up_ne (by omega), up_ne (by omega), up_ne (by omega)]; exact r2 i q1 q2
              · rw [y7, up_ne (show 19 + 2 * k ≠ 4 by omega), up_ne (show 20 + 2 * k ≠ 4 by omega), up_ne (show 19 + 2 * k ≠ 20 + 2 * c 4 by omega), up_ne (show 19 + 2 * k ≠ 114 + c 4 by omega)]
                by_cases z : k = c 4
                · rw [z, up_eq, up_eq, up_eq, up_eq]; exact ⟨rfl, rfl⟩
                · rw [up_ne (show 19 + 2 * k ≠ 19 + 2 * c 4 by omega), up_ne (show 19 + 2 * k ≠ 19 + 2 * c 4 by omega), up_ne (show 20 + 2 * k ≠ 20 + 2 * c 4 by omega), up_ne (show 20 + 2 * k ≠ 19 + 2 * c 4 by omega), up_ne (show 114 + k ≠ 114 + c 4 by omega), up_ne (show 114 + k ≠ 19 + 2 * c 4 by omega)]
                  exact r3 k hk
              · rw [y7, up_ne (by omega), up_ne (by omega), up_ne (by omega), up_ne (by omega), up_ne (by omega)]; exact r4 i q1 q2
              · rw [y173, up_ne (by omega), up_ne (by omega)]; exact r5 p hq
              · rw [y173]; exact r6 j q1 q2
            · show wrM S7 y (W ++ [(s, l, 5 + c 4)])
              refine wrM_lo (S := S1) a5 (fun j hj => ?_)
              rw [y7, up_ne (by omega), up_ne (by omega), up_ne (by omega), w3.1 171 (by omega) (by omega), g3.1 171 (by omega) (by omega), b3.1 171 (by omega) (by omega)]
end RMB

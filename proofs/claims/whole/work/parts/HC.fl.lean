-- THE TEXT, the reference: fasts, what is unsure, what was heard
section RMC
variable {S : Mem} {J : MeJ} {T : Nat → Nat} {y : Nat → Nat} {n s : Nat} {R : Row} {W : WL} {c : Nat → Nat}
set_option maxRecDepth 100000 in
set_option maxHeartbeats 400000 in
theorem c_fstF (h : S 167 13 = nI 1) : gX11_fastLine 167 (hp S J T) = some (hp S J T) := by
  unfold gX11_fastLine fX11_fastLine_0
  rw [mo_g13, Option.bind_some, h, if_neg (show ¬ nI 1 = 0 by decide)]
  rfl
set_option maxRecDepth 100000 in
set_option maxHeartbeats 400000 in
theorem c_fstF1 (h : S 167 13 = nI 1) {v1 v2 v3 : Int32} : fX11_fastLine_113 167 v1 v2 v3 (hp S J T) = some (hp S J T) := by
  unfold fX11_fastLine_113 fX11_fastLine_114
  rw [mo_isO, Option.bind_some, c_passF h, Option.bind_some]
  unfold fX11_fastLine_117
  rw [mo_g13, Option.bind_some, h, if_neg (show ¬ nI 1 = 0 by decide)]
  rfl
set_option maxRecDepth 100000 in
set_option maxHeartbeats 400000 in
theorem c_fstF2 (h : S 167 13 = nI 1) {K : Nat} (hK : S 171 5 = nI K) (hb : K ≤ 8) {v1 v2 v3 : Int32} : fX11_fastLine_42 167 v1 v2 v3 (hp S J T) = some (hp S J T) := by
  unfold fX11_fastLine_42
  rw [kI_0, c_lfsF h hK hb K 0 FU (by omega) (FU_lt (by omega))]
  exact c_fstF1 h
set_option maxRecDepth 100000 in
set_option maxHeartbeats 400000 in
theorem c_fstF3 (h : S 167 13 = nI 1) {K : Nat} (hK : S 171 5 = nI K) (hb : K ≤ 8) {v1 v2 : Int32} : fX11_fastLine_35 167 v1 v2 (hp S J T) = some (hp S J T) := by
  unfold fX11_fastLine_35 fX11_fastLine_39
  rw [mo_isO, Option.bind_some, c_nHF h, Option.bind_some]
  exact c_fstF2 h hK hb
set_option maxRecDepth 100000 in
set_option maxHeartbeats 400000 in
theorem c_fstF4 (h : S 167 13 = nI 1) {K : Nat} (hK : S 171 5 = nI K) (hb : K ≤ 8) {v1 v2 : Int32} : fX11_fastLine_24 167 v1 v2 (hp S J T) = some (hp S J T) := by
  unfold fX11_fastLine_24 fX11_fastLine_26
  rw [mo_isO, Option.bind_some, c_passF h, Option.bind_some]
  unfold fX11_fastLine_29 fX11_fastLine_30 fX11_fastLine_32
  rw [mo_isO, Option.bind_some, c_mustF h, Option.bind_some]
  exact c_fstF3 h hK hb
set_option maxRecDepth 100000 in
set_option maxHeartbeats 400000 in
theorem c_fstM (h : stM S y n (R, W, c, s)) (hi : pIv R W c) (hc : c 5 < 8) : ∃ S', gX11_fastLine 167 (hp S J T) = some (hp S' J T) ∧ outM S' (bdP (pTd y n W 0 4 s) fun p => bdP (pA y n 16 1 60 (nx y n s)) fun d => if anyR2 R 35 (nI p) (nI d.1) (c 5) then .inl (3, d.2) else .inr ((up (up R (35 + 2 * c 5) (nI p)) (36 + 2 * c 5) (nI d.1), W, upN c 5 (c 5 + 1), nx y n d.2) : PSt)) (fun q => stM S' y n q) ∧ frO S S' := by
  obtain ⟨h1, h2, h3⟩ := h
  dsimp only at h1 h2 h3
  have h13 := h1.2.2.2.1
  have hP := h2.1 5 (by omega)
  obtain ⟨S1, v, a1, a2, a3⟩ := c_perH (J := J) (T := T) h1 h3
  have e1 : gX11_fastLine 167 (hp S J T) = fX11_fastLine_24 167 (nI (35 + 2 * c 5)) v (hp S1 J T) := by
    unfold gX11_fastLine fX11_fastLine_0
    rw [mo_g13, Option.bind_some, h13, if_pos (show nI 0 = 0 from rfl)]
    unfold fX11_fastLine_8
    rw [mo_f16, Option.bind_some, kI_5, mo_r16 (by omega), Option.bind_some, hP, kB_35, kI_2, ix2]
    unfold fX11_fastLine_21
    rw [mo_isO, Option.bind_some, a1, Option.bind_some]
  rw [e1]
  cases hq0 : pTd y n W 0 4 s with
  | inl e =>
    rw [hq0] at a2
    have a2' : fTM S1 e := a2
    exact ⟨S1, c_fstF4 a2'.1 (K := c 5) (by rw [a3.1 171 (by omega) (by omega)]; exact hP) (by omega), a2', frM_O a3⟩
  | inr p =>
    rw [hq0] at a2
    obtain ⟨a4, a5⟩ := a2
    rw [bdP_r, a4, a5]
    obtain ⟨S2, b1, b2, b3⟩ := c_pasM (J := J) (T := T) h1 (td_k hq0)
    obtain ⟨S3, d1, d2, d3⟩ := c_must (J := J) (T := T) b2 (i := 33) (by omega)
    rw [show stN 33 = 16 from rfl] at d2
    have e2 : fX11_fastLine_24 167 (nI (35 + 2 * c 5)) (nI p) (hp S J T) = fX11_fastLine_35 167 (nI (35 + 2 * c 5)) (nI p) (hp S3 J T) := by
      unfold fX11_fastLine_24 fX11_fastLine_26
      rw [mo_isO, Option.bind_some, b1, Option.bind_some]
      unfold fX11_fastLine_29 fX11_fastLine_30 fX11_fastLine_32
      rw [mo_isO, Option.bind_some, d1, Option.bind_some]
    rw [e2, show pA y n 16 1 60 (nx y n s) = bdP (pW y n 16 (nx y n s)) fun s1 => bdP (pNu y n 1 60 s1) fun v => .inr (v, s1) from rfl]
    have n3 : frM S S3 := frM_tr b3 d3
    have x3 : S3 171 = S 171 := n3.1 171 (by omega) (by omega)
    cases hq1 : pW y n 16 (nx y n s) with
    | inl e =>
      rw [hq1] at d2
      have d2' : fTM S3 e := d2
      exact ⟨S3, c_fstF3 d2'.1 (K := c 5) (by rw [x3]; exact hP) (by omega), d2', frM_O n3⟩
    | inr s1 =>
      rw [hq1] at d2
      have d2' : tM S3 y n s1 := d2
      rw [bdP_r]
      obtain ⟨S4, v4, u1, u2, u3⟩ := c_nHM (J := J) (T := T) d2' (lo := 1) (hi := 60) (by omega) (by omega)
      have e3 : fX11_fastLine_35 167 (nI (35 + 2 * c 5)) (nI p) (hp S3 J T) = fX11_fastLine_42 167 (nI (35 + 2 * c 5)) (nI p) v4 (hp S4 J T) := by
        unfold fX11_fastLine_35 fX11_fastLine_39
        rw [mo_isO, Option.bind_some, kI_1, kB_60, u1, Option.bind_some]
      rw [e3]
      cases hq2 : pNu y n 1 60 s1 with
      | inl e =>
        rw [hq2] at u2
        have u2' : fTM S4 e := u2
        have n4 : frM S S4 := frM_tr n3 u3
        exact ⟨S4, c_fstF2 u2'.1 (K := c 5) (by rw [n4.1 171 (by omega) (by omega)]; exact hP) (by omega), u2', frM_O n4⟩
      | inr d =>
        rw [hq2] at u2
        obtain ⟨u4, u5, u6⟩ := u2
        rw [bdP_r, bdP_r, u4, u5]
        dsimp only
        obtain ⟨S5, l1, l2, l3, l4⟩ := c_lfs (J := J) (T := T) (R := R) (x := nI p) (x2 := nI d) (v1 := nI (35 + 2 * c 5)) d2' (K := c 5) (by rw [x3]; exact hP) (by omega) (fun k hk => by rw [x3, h2.2.2.2.1 _ (by omega) (by omega), h2.2.2.2.1 _ (by omega) (by omega), show 35 + 2 * k + 1 = 35 + 1 + 2 * k by omega]; exact ⟨rfl, rfl⟩) (by omega) (c 5) 0 FU (by omega) (FU_lt (by omega)) rfl
        have e4 : fX11_fastLine_42 167 (nI (35 + 2 * c 5)) (nI p) (nI d) (hp S3 J T) = fX11_fastLine_113 167 (nI (35 + 2 * c 5)) (nI p) (nI d) (hp S5 J T) := by
          unfold fX11_fastLine_42
          rw [kI_0, l1]
        rw [e4]
        cases hq3 : anyR2 R 35 (nI p) (nI d) (c 5) with
        | true =>
          have l3' := l3 hq3
          rw [if_pos rfl]
          exact ⟨S5, c_fstF1 l3'.1, l3', frM_O (frM_tr n3 l4)⟩
        | false =>
          rw [l2 hq3, if_neg (by decide)]
          obtain ⟨S6, g1, g2, g3⟩ := c_pasM (J := J) (T := T) d2' (by omega)
          have n6 : frM S S6 := frM_tr n3 g3
          have x6 : S6 171 = S 171 := n6.1 171 (by omega) (by omega)
          unfold fX11_fastLine_113 fX11_fastLine_114
          rw [mo_isO, Option.bind_some, g1, Option.bind_some]
          unfold fX11_fastLine_117
          rw [mo_g13, Option.bind_some, g2.2.2.2.1, if_pos (show nI 0 = 0 from rfl)]
          unfold fX11_fastLine_125
          rw [mo_f16, Option.bind_some, mo_w16 (by omega), Option.bind_some, stS_R, mo_f16, Option.bind_some, kI_1, nI_add, mo_w16 (by omega), Option.bind_some, stS_R, stR_stR, stR_eq, mo_f16, Option.bind_some, kI_5, mo_r16 (by omega), Option.bind_some, stR_eq, up_ne (by omega), up_ne (by omega), x6, hP, nI_add, mo_w16 (by omega), Option.bind_some, stS_R, stR_stR, stR_eq]
          refine ⟨_, rfl, ⟨tM_171 g2, ?_, ?_⟩, frO_tr (frM_O n6) (frO_171 (by rw [up_ne (by omega), up_ne (by omega), up_ne (by omega), x6]))⟩
          · show rwM _ (up (up R (35 + 2 * c 5) (nI p)) (36 + 2 * c 5) (nI d)) (upN c 5 (c 5 + 1))
            rw [show 36 + 2 * c 5 = 35 + 2 * c 5 + 1 by omega]
            exact rw_pr h2 (by omega) (by omega) (by omega) stR_eq (by rw [stR_ne (by omega)]; exact n6.1 173 (by omega) (by omega))
          · refine wrM_lo (S := S) h3 (fun j hj => ?_)
            rw [stR_eq, up_ne (by omega), up_ne (by omega), up_ne (by omega)]
set_option maxRecDepth 100000 in
set_option maxHeartbeats 400000 in
theorem c_hrdF (h : S 167 13 = nI 1) : gX11_heardLine 167 (hp S J T) = some (hp S J T) := by
  unfold gX11_heardLine fX11_heardLine_0
  rw [mo_g13, Option.bind_some, h, if_neg (show ¬ nI 1 = 0 by decide)]
  rfl
set_option maxRecDepth 100000 in
set_option maxHeartbeats 400000 in
theorem c_hrdF1 (h : S 167 13 = nI 1) {v1 v2 v3 : Int32} : fX11_heardLine_99 167 v1 v2 v3 (hp S J T) = some (hp S J T) := by
  unfold fX11_heardLine_99 fX11_heardLine_100
  rw [mo_isO, Option.bind_some, c_passF h, Option.bind_some]
  unfold fX11_heardLine_103
  rw [mo_g13, Option.bind_some, h, if_neg (show ¬ nI 1 = 0 by decide)]
  rfl
set_option maxRecDepth 100000 in
set_option maxHeartbeats 400000 in
theorem c_hrdF2 (h : S 167 13 = nI 1) {K : Nat} (hK : S 171 7 = nI K) (hb : K ≤ 8) {v1 v2 v3 : Int32} : fX11_heardLine_43 167 v1 v2 v3 (hp S J T) = some (hp S J T) := by
  unfold fX11_heardLine_43
  rw [kI_0, c_lhdF h hK hb K 0 FU (by omega) (FU_lt (by omega))]
  exact c_hrdF1 h
set_option maxRecDepth 100000 in
set_option maxHeartbeats 400000 in
theorem c_hrdF3 (h : S 167 13 = nI 1) {K : Nat} (hK : S 171 7 = nI K) (hb : K ≤ 8) {v1 v2 : Int32} : fX11_heardLine_36 167 v1 v2 (hp S J T) = some (hp S J T) := by
  unfold fX11_heardLine_36 fX11_heardLine_40
  rw [mo_isO, Option.bind_some, c_nHF h, Option.bind_some]
  exact c_hrdF2 h hK hb
set_option maxRecDepth 100000 in
set_option maxHeartbeats 400000 in
theorem c_hrdF4 (h : S 167 13 = nI 1) {K : Nat} (hK : S 171 7 = nI K) (hb : K ≤ 8) {v1 v2 : Int32} : fX11_heardLine_25 167 v1 v2 (hp S J T) = some (hp S J T) := by
  unfold fX11_heardLine_25 fX11_heardLine_27
  rw [mo_isO, Option.bind_some, c_passF h, Option.bind_some]
  unfold fX11_heardLine_30 fX11_heardLine_31 fX11_heardLine_33
  rw [mo_isO, Option.bind_some, c_mustF h, Option.bind_some]
  exact c_hrdF3 h hK hb
set_option maxRecDepth 100000 in
set_option maxHeartbeats 400000 in
theorem c_hrdM (h : stM S y n (R, W, c, s)) (hi : pIv R W c) (hc : c 7 < 6) : ∃ S', gX11_heardLine 167 (hp S J T) = some (hp S' J T) ∧ outM S' (bdP (pTd y n W 5 12 s) fun p => bdP (pA y n 16 1 60 (nx y n s)) fun d => if anyR R 60 (nI d.1) (c 7) then .inl (3, d.2) else .inr ((up (up R (59 + 2 * c 7) (nI p)) (60 + 2 * c 7) (nI d.1), W, upN c 7 (c 7 + 1), nx y n d.2) : PSt)) (fun q => stM S' y n q) ∧ frO S S' := by
  obtain ⟨h1, h2, h3⟩ := h
  dsimp only at h1 h2 h3
  have h13 := h1.2.2.2.1
  have hP := h2.1 7 (by omega)
  obtain ⟨S1, v, a1, a2, a3⟩ := c_dshH (J := J) (T := T) h1 h3
  have e1 : gX11_heardLine 167 (hp S J T) = fX11_heardLine_25 167 (nI (59 + 2 * c 7)) v (hp S1 J T) := by
    unfold gX11_heardLine fX11_heardLine_0
    rw [mo_g13, Option.bind_some, h13, if_pos (show nI 0 = 0 from rfl)]
    unfold fX11_heardLine_8
    rw [mo_f16, Option.bind_some, kB_7, mo_r16 (by omega), Option.bind_some, hP, kB_59, kI_2, ix2]
    unfold fX11_heardLine_22
    rw [mo_isO, Option.bind_some, a1, Option.bind_some]
  rw [e1]
  cases hq0 : pTd y n W 5 12 s with
  | inl e =>
    rw [hq0] at a2
    have a2' : fTM S1 e := a2
    exact ⟨S1, c_hrdF4 a2'.1 (K := c 7) (by rw [a3.1 171 (by omega) (by omega)]; exact hP) (by omega), a2', frM_O a3⟩
  | inr p =>
    rw [hq0] at a2
    obtain ⟨a4, a5⟩ := a2
    rw [bdP_r, a4, a5]
    obtain ⟨S2, b1, b2, b3⟩ := c_pasM (J := J) (T := T) h1 (td_k hq0)
    obtain ⟨S3, d1, d2, d3⟩ := c_must (J := J) (T := T) b2 (i := 33) (by omega)
    rw [show stN 33 = 16 from rfl] at d2
    have e2 : fX11_heardLine_25 167 (nI (59 + 2 * c 7)) (nI p) (hp S J T) = fX11_heardLine_36 167 (nI (59 + 2 * c 7)) (nI p) (hp S3 J T) := by
      unfold fX11_heardLine_25 fX11_heardLine_27
      rw [mo_isO, Option.bind_some, b1, Option.bind_some]
      unfold fX11_heardLine_30 fX11_heardLine_31 fX11_heardLine_33
      rw [mo_isO, Option.bind_some, d1, Option.bind_some]
    rw [e2, show pA y n 16 1 60 (nx y n s) = bdP (pW y n 16 (nx y n s)) fun s1 => bdP (pNu y n 1 60 s1) fun v => .inr (v, s1) from rfl]
    have n3 : frM S S3 := frM_tr b3 d3
    have x3 : S3 171 = S 171 := n3.1 171 (by omega) (by omega)
    cases hq1 : pW y n 16 (nx y n s) with
    | inl e =>
      rw [hq1] at d2
      have d2' : fTM S3 e := d2
      exact ⟨S3, c_hrdF3 d2'.1 (K := c 7) (by rw [x3]; exact hP) (by omega), d2', frM_O n3⟩
    | inr s1 =>
      rw [hq1] at d2
      have d2' : tM S3 y n s1 := d2
      rw [bdP_r]
      obtain ⟨S4, v4, u1, u2, u3⟩ := c_nHM (J := J) (T := T) d2' (lo := 1) (hi := 60) (by omega) (by omega)
      have e3 : fX11_heardLine_36 167 (nI (59 + 2 * c 7)) (nI p) (hp S3 J T) = fX11_heardLine_43 167 (nI (59 + 2 * c 7)) (nI p) v4 (hp S4 J T) := by
        unfold fX11_heardLine_36 fX11_heardLine_40
        rw [mo_isO, Option.bind_some, kI_1, kB_60, u1, Option.bind_some]
      rw [e3]
      cases hq2 : pNu y n 1 60 s1 with
      | inl e =>
        rw [hq2] at u2
        have u2' : fTM S4 e := u2
        have n4 : frM S S4 := frM_tr n3 u3
        exact ⟨S4, c_hrdF2 u2'.1 (K := c 7) (by rw [n4.1 171 (by omega) (by omega)]; exact hP) (by omega), u2', frM_O n4⟩
      | inr d =>
        rw [hq2] at u2
        obtain ⟨u4, u5, u6⟩ := u2
        rw [bdP_r, bdP_r, u4, u5]
        dsimp only
        obtain ⟨S5, l1, l2, l3, l4⟩ := c_lhd (J := J) (T := T) (R := R) (x := nI d) (v2 := nI p) (v1 := nI (59 + 2 * c 7)) d2' (K := c 7) (by rw [x3]; exact hP) (by omega) (fun k hk => by rw [x3, h2.2.2.2.1 _ (by omega) (by omega), show 59 + 2 * k + 1 = 60 + 2 * k by omega]) (by omega) (c 7) 0 FU (by omega) (FU_lt (by omega)) rfl
        have e4 : fX11_heardLine_43 167 (nI (59 + 2 * c 7)) (nI p) (nI d) (hp S3 J T) = fX11_heardLine_99 167 (nI (59 + 2 * c 7)) (nI p) (nI d) (hp S5 J T) := by
          unfold fX11_heardLine_43
          rw [kI_0, l1]
        rw [e4]
        cases hq3 : anyR R 60 (nI d) (c 7) with
        | true =>
          have l3' := l3 hq3
          rw [if_pos rfl]
          exact ⟨S5, c_hrdF1 l3'.1, l3', frM_O (frM_tr n3 l4)⟩
        | false =>
          rw [l2 hq3, if_neg (by decide)]
          obtain ⟨S6, g1, g2, g3⟩ := c_pasM (J := J) (T := T) d2' (by omega)
          have n6 : frM S S6 := frM_tr n3 g3
          have x6 : S6 171 = S 171 := n6.1 171 (by omega) (by omega)
          unfold fX11_heardLine_99 fX11_heardLine_100
          rw [mo_isO, Option.bind_some, g1, Option.bind_some]
          unfold fX11_heardLine_103
          rw [mo_g13, Option.bind_some, g2.2.2.2.1, if_pos (show nI 0 = 0 from rfl)]
          unfold fX11_heardLine_111
          rw [mo_f16, Option.bind_some, mo_w16 (by omega), Option.bind_some, stS_R, mo_f16, Option.bind_some, kI_1, nI_add, mo_w16 (by omega), Option.bind_some, stS_R, stR_stR, stR_eq, mo_f16, Option.bind_some, kB_7, mo_r16 (by omega), Option.bind_some, stR_eq, up_ne (by omega), up_ne (by omega), x6, hP, nI_add, mo_w16 (by omega), Option.bind_some, stS_R, stR_stR, stR_eq]
          refine ⟨_, rfl, ⟨tM_171 g2, ?_, ?_⟩, frO_tr (frM_O n6) (frO_171 (by rw [up_ne (by omega), up_ne (by omega), up_ne (by omega), x6]))⟩
          · show rwM _ (up (up R (59 + 2 * c 7) (nI p)) (60 + 2 * c 7) (nI d)) (upN c 7 (c 7 + 1))
            rw [show 60 + 2 * c 7 = 59 + 2 * c 7 + 1 by omega]
            exact rw_pr h2 (by omega) (by omega) (by omega) stR_eq (by rw [stR_ne (by omega)]; exact n6.1 173 (by omega) (by omega))
          · refine wrM_lo (S := S) h3 (fun j hj => ?_)
            rw [stR_eq, up_ne (by omega), up_ne (by omega), up_ne (by omega)]
set_option maxRecDepth 100000 in
set_option maxHeartbeats 400000 in
theorem c_unsF (h : S 167 13 = nI 1) : gX11_unsureLine 167 (hp S J T) = some (hp S J T) := by
  unfold gX11_unsureLine fX11_unsureLine_0
  rw [mo_g13, Option.bind_some, h, if_neg (show ¬ nI 1 = 0 by decide)]
  rfl
set_option maxRecDepth 100000 in
set_option maxHeartbeats 400000 in
theorem c_unsF0 (h : S 167 13 = nI 1) {v1 v2 v3 : Int32} : fX11_unsureLine_87 167 v1 v2 v3 (hp S J T) = some (hp S J T) := by
  unfold fX11_unsureLine_87
  rw [mo_g13, Option.bind_some, h, if_neg (show ¬ nI 1 = 0 by decide)]
  rfl
set_option maxRecDepth 100000 in
set_option maxHeartbeats 400000 in
theorem c_unsF1 (h : S 167 13 = nI 1) {v1 v2 : Int32} : fX11_unsureLine_76 167 v1 v2 (hp S J T) = some (hp S J T) := by
  unfold fX11_unsureLine_76 fX11_unsureLine_77
  rw [mo_isO, Option.bind_some, c_passF h, Option.bind_some]
  unfold fX11_unsureLine_80 fX11_unsureLine_84
  rw [mo_isO, Option.bind_some, c_numF h, Option.bind_some]
  exact c_unsF0 h
set_option maxRecDepth 100000 in
set_option maxHeartbeats 400000 in
theorem c_unsF2 (h : S 167 13 = nI 1) {K : Nat} (hK : S 171 6 = nI K) (hb : K ≤ 8) {v1 v2 : Int32} : fX11_unsureLine_25 167 v1 v2 (hp S J T) = some (hp S J T) := by
  unfold fX11_unsureLine_25
  rw [kI_0, c_lunF h hK hb K 0 FU (by omega) (FU_lt (by omega))]
  exact c_unsF1 h
set_option maxRecDepth 100000 in
set_option maxHeartbeats 400000 in
theorem c_unsM (h : stM S y n (R, W, c, s)) (hi : pIv R W c) (hc : c 6 < 4) : ∃ S', gX11_unsureLine 167 (hp S J T) = some (hp S' J T) ∧ outM S' (bdP (pTd y n W 0 4 s) fun p => if anyR R 51 (nI p) (c 6) then .inl (3, s) else bdP (pNu y n 0 99 (nx y n s)) fun h => .inr ((up (up R (51 + 2 * c 6) (nI p)) (52 + 2 * c 6) (nI h), W, upN c 6 (c 6 + 1), nx y n (nx y n s)) : PSt)) (fun q => stM S' y n q) ∧ frO S S' := by
  obtain ⟨h1, h2, h3⟩ := h
  dsimp only at h1 h2 h3
  have h13 := h1.2.2.2.1
  have hP := h2.1 6 (by omega)
  obtain ⟨S1, v, a1, a2, a3⟩ := c_perH (J := J) (T := T) h1 h3
  have e1 : gX11_unsureLine 167 (hp S J T) = fX11_unsureLine_25 167 (nI (51 + 2 * c 6)) v (hp S1 J T) := by
    unfold gX11_unsureLine fX11_unsureLine_0
    rw [mo_g13, Option.bind_some, h13, if_pos (show nI 0 = 0 from rfl)]
    unfold fX11_unsureLine_8
    rw [mo_f16, Option.bind_some, kB_6, mo_r16 (by omega), Option.bind_some, hP, kB_51, kI_2, ix2]
    unfold fX11_unsureLine_22
    rw [mo_isO, Option.bind_some, a1, Option.bind_some]
  rw [e1]
  cases hq0 : pTd y n W 0 4 s with
  | inl e =>
    rw [hq0] at a2
    have a2' : fTM S1 e := a2
    exact ⟨S1, c_unsF2 a2'.1 (K := c 6) (by rw [a3.1 171 (by omega) (by omega)]; exact hP) (by omega), a2', frM_O a3⟩
  | inr p =>
    rw [hq0] at a2
    obtain ⟨a4, a5⟩ := a2
    rw [bdP_r, a4, a5]
    obtain ⟨S5, l1, l2, l3, l4⟩ := c_lun (J := J) (T := T) (R := R) (x := nI p) (v1 := nI (51 + 2 * c 6)) h1 (K := c 6) hP (by omega) (fun k hk => h2.2.2.2.1 _ (by omega) (by omega)) (by omega) (c 6) 0 FU (by omega) (FU_lt (by omega)) rfl
    have e4 : fX11_unsureLine_25 167 (nI (51 + 2 * c 6)) (nI p) (hp S J T) = fX11_unsureLine_76 167 (nI (51 + 2 * c 6)) (nI p) (hp S5 J T) := by
      unfold fX11_unsureLine_25
      rw [kI_0, l1]
    rw [e4]
    cases hq3 : anyR R 51 (nI p) (c 6) with
    | true =>
      have l3' := l3 hq3
      rw [if_pos rfl]
      exact ⟨S5, c_unsF1 l3'.1, l3', frM_O l4⟩
    | false =>
      rw [l2 hq3, if_neg (by decide)]
      obtain ⟨S2, b1, b2, b3⟩ := c_pasM (J := J) (T := T) h1 (td_k hq0)
      obtain ⟨S4, v4, u1, u2, u3⟩ := c_num (J := J) (T := T) b2 (lo := 0) (hi := 99) (by omega) (by omega)
      have e3 : fX11_unsureLine_76 167 (nI (51 + 2 * c 6)) (nI p) (hp S J T) = fX11_unsureLine_87 167 (nI (51 + 2 * c 6)) (nI p) v4 (hp S4 J T) := by
        unfold fX11_unsureLine_76 fX11_unsureLine_77
        rw [mo_isO, Option.bind_some, b1, Option.bind_some]
        unfold fX11_unsureLine_80 fX11_unsureLine_84
        rw [mo_isO, Option.bind_some, kI_0, kB_99, u1, Option.bind_some]
      rw [e3]
      have n4 : frM S S4 := frM_tr b3 u3
      have x4 : S4 171 = S 171 := n4.1 171 (by omega) (by omega)
      cases hq2 : pNu y n 0 99 (nx y n s) with
      | inl e =>
        rw [hq2] at u2
        have u2' : fTM S4 e := u2
        exact ⟨S4, c_unsF0 u2'.1, u2', frM_O n4⟩
      | inr d =>
        rw [hq2] at u2
        obtain ⟨u4, u5⟩ := u2
        rw [bdP_r, u4]
        unfold fX11_unsureLine_87
        rw [mo_g13, Option.bind_some, u5.2.2.2.1, if_pos (show nI 0 = 0 from rfl)]
        unfold fX11_unsureLine_96
        rw [mo_f16, Option.bind_some, mo_w16 (by omega), Option.bind_some, stS_R, mo_f16, Option.bind_some, kI_1, nI_add, mo_w16 (by omega), Option.bind_some, stS_R, stR_stR, stR_eq, mo_f16, Option.bind_some, kB_6, mo_r16 (by omega), Option.bind_some, stR_eq, up_ne (by omega), up_ne (by omega), x4, hP, nI_add, mo_w16 (by omega), Option.bind_some, stS_R, stR_stR, stR_eq]
        refine ⟨_, rfl, ⟨tM_171 u5, ?_, ?_⟩, frO_tr (frM_O n4) (frO_171 (by rw [up_ne (by omega), up_ne (by omega), up_ne (by omega), x4]))⟩
        · show rwM _ (up (up R (51 + 2 * c 6) (nI p)) (52 + 2 * c 6) (nI d)) (upN c 6 (c 6 + 1))
          rw [show 52 + 2 * c 6 = 51 + 2 * c 6 + 1 by omega]
          exact rw_pr h2 (by omega) (by omega) (by omega) stR_eq (by rw [stR_ne (by omega)]; exact n4.1 173 (by omega) (by omega))
        · refine wrM_lo (S := S) h3 (fun j hj => ?_)
          rw [stR_eq, up_ne (by omega), up_ne (by omega), up_ne (by omega)]
end RMC

-- THE TEXT, the reference: a line
section RMD
variable {S : Mem} {J : MeJ} {T : Nat → Nat} {y : Nat → Nat} {n s : Nat} {R : Row} {W : WL} {c : Nat → Nat}
set_option maxRecDepth 100000 in
set_option maxHeartbeats 400000 in
theorem n_ln1 (h1 : tM S y n s) (h2 : rwM S R c) (hi : cB c) (hw : wdB y n s 1 = false) : fX11_readLine_16 167 (hp S J T) = fX11_readLine_47 167 (hp S J T) := by
    obtain ⟨k3, k4, k5, k6, k7, k8⟩ := hi
    have hw' : wdB y n s (stN 21) = false := hw
    have eb : (if nI (c 3) < nI 5 then fX11_readLine_29 167 (SB + 21) 167 (hp S J T) else fX11_readLine_33 167 (SB + 21) 167 (hp S J T)) = fX11_readLine_34 167 (bI (decide (c 3 < 5))) (SB + 21) 167 (hp S J T) := by
      by_cases zc : c 3 < 5
      · rw [if_pos (ltn zc (by omega)), decide_eq_true zc]
        unfold fX11_readLine_29
        rw [kI_1, bI_t]
      · rw [if_neg (nltn zc (by omega) (by omega)), decide_eq_false zc]
        unfold fX11_readLine_33
        rw [kI_0, bI_f]
    unfold fX11_readLine_16 fX11_readLine_17 fX11_readLine_19
    rw [mo_f16, Option.bind_some, kI_3, mo_r16 (by omega), Option.bind_some, h2.1 3 (by omega), kI_5, eb]
    unfold fX11_readLine_34
    rw [mo_isO, Option.bind_some, c_bgn0 h1 (by omega) hw', Option.bind_some]
    unfold fX11_readLine_37
    rw [if_pos (show nI 0 = 0 from rfl)]
set_option maxRecDepth 100000 in
set_option maxHeartbeats 400000 in
theorem y_ln1 (h : stM S y n (R, W, c, s)) (hi : pIv R W c) (hw : wdB y n s 1 = true) : ∃ S', fX11_readLine_16 167 (hp S J T) = some (hp S' J T) ∧ outM S' (pPer y n (R, W, c, s)) (fun q => stM S' y n q) ∧ frO S S' := by
  obtain ⟨h1, h2, h3⟩ := h
  dsimp only at h1 h2 h3
  obtain ⟨k3, k4, k5, k6, k7, k8⟩ := hi.1
  have hw' : wdB y n s (stN 21) = true := hw
  obtain ⟨S1, a1, a2, a3⟩ := c_bgn1 (J := J) (T := T) h1 (i := 21) (by omega) hw' (h2.1 8 (by omega)) k8 (decide (c 3 < 5))
  have e1 : fX11_readLine_16 167 (hp S J T) = fX11_readLine_40 167 (hp S1 J T) := by
    have eb : (if nI (c 3) < nI 5 then fX11_readLine_29 167 (SB + 21) 167 (hp S J T) else fX11_readLine_33 167 (SB + 21) 167 (hp S J T)) = fX11_readLine_34 167 (bI (decide (c 3 < 5))) (SB + 21) 167 (hp S J T) := by
      by_cases zc : c 3 < 5
      · rw [if_pos (ltn zc (by omega)), decide_eq_true zc]
        unfold fX11_readLine_29
        rw [kI_1, bI_t]
      · rw [if_neg (nltn zc (by omega) (by omega)), decide_eq_false zc]
        unfold fX11_readLine_33
        rw [kI_0, bI_f]
    unfold fX11_readLine_16 fX11_readLine_17 fX11_readLine_19
    rw [mo_f16, Option.bind_some, kI_3, mo_r16 (by omega), Option.bind_some, h2.1 3 (by omega), kI_5, eb]
    unfold fX11_readLine_34
    rw [mo_isO, Option.bind_some, a1, Option.bind_some]
    unfold fX11_readLine_37
    rw [if_neg (show ¬ nI 1 = 0 by decide)]
  rw [e1]
  unfold fX11_readLine_40 fX11_readLine_41 pPer pBeg
  dsimp only
  rw [mo_isO, Option.bind_some]
  by_cases zc : c 3 < 5
  · rw [decide_eq_true zc, if_pos rfl] at a2
    rw [if_pos zc]
    by_cases z8 : c 8 = 0
    · rw [if_pos z8] at a2
      rw [if_pos z8]
      have a2' : fTM S1 (6, s) := a2
      exact ⟨S1, by rw [c_perF a2'.1, Option.bind_some]; rfl, a2', frM_O a3⟩
    · rw [if_neg z8] at a2
      rw [if_neg z8]
      have a2' : tM S1 y n (nx y n s) := a2
      obtain ⟨S2, b1, b2, b3⟩ := c_perM (J := J) (T := T) (S := S1) (R := R) (W := W) (c := c) (s := nx y n s) ⟨a2', rwM_N h2 (frM_N a3), wrM_cg h3 (a3.1 171 (by omega) (by omega))⟩ hi zc
      exact ⟨S2, by rw [b1, Option.bind_some]; rfl, b2, frO_tr (frM_O a3) b3⟩
  · rw [decide_eq_false zc, if_neg (by decide)] at a2
    rw [if_neg zc]
    have a2' : fTM S1 (5, s) := a2
    exact ⟨S1, by rw [c_perF a2'.1, Option.bind_some]; rfl, a2', frM_O a3⟩
set_option maxRecDepth 100000 in
set_option maxHeartbeats 400000 in
theorem n_ln2 (h1 : tM S y n s) (h2 : rwM S R c) (hi : cB c) (hw : wdB y n s 2 = false) : fX11_readLine_47 167 (hp S J T) = fX11_readLine_79 167 (hp S J T) := by
    obtain ⟨k3, k4, k5, k6, k7, k8⟩ := hi
    have hw' : wdB y n s (stN 22) = false := hw
    have eb : (if nI (c 4) < nI 8 then fX11_readLine_61 167 (SB + 22) 167 (hp S J T) else fX11_readLine_65 167 (SB + 22) 167 (hp S J T)) = fX11_readLine_66 167 (bI (decide (c 4 < 8))) (SB + 22) 167 (hp S J T) := by
      by_cases zc : c 4 < 8
      · rw [if_pos (ltn zc (by omega)), decide_eq_true zc]
        unfold fX11_readLine_61
        rw [kI_1, bI_t]
      · rw [if_neg (nltn zc (by omega) (by omega)), decide_eq_false zc]
        unfold fX11_readLine_65
        rw [kI_0, bI_f]
    unfold fX11_readLine_47 fX11_readLine_48 fX11_readLine_50
    rw [mo_f16, Option.bind_some, kI_4, mo_r16 (by omega), Option.bind_some, h2.1 4 (by omega), kB_8, eb]
    unfold fX11_readLine_66
    rw [mo_isO, Option.bind_some, c_bgn0 h1 (by omega) hw', Option.bind_some]
    unfold fX11_readLine_69
    rw [if_pos (show nI 0 = 0 from rfl)]
set_option maxRecDepth 100000 in
set_option maxHeartbeats 400000 in
theorem y_ln2 (h : stM S y n (R, W, c, s)) (hi : pIv R W c) (hw : wdB y n s 2 = true) : ∃ S', fX11_readLine_47 167 (hp S J T) = some (hp S' J T) ∧ outM S' (pNam y n (R, W, c, s)) (fun q => stM S' y n q) ∧ frO S S' := by
  obtain ⟨h1, h2, h3⟩ := h
  dsimp only at h1 h2 h3
  obtain ⟨k3, k4, k5, k6, k7, k8⟩ := hi.1
  have hw' : wdB y n s (stN 22) = true := hw
  obtain ⟨S1, a1, a2, a3⟩ := c_bgn1 (J := J) (T := T) h1 (i := 22) (by omega) hw' (h2.1 8 (by omega)) k8 (decide (c 4 < 8))
  have e1 : fX11_readLine_47 167 (hp S J T) = fX11_readLine_72 167 (hp S1 J T) := by
    have eb : (if nI (c 4) < nI 8 then fX11_readLine_61 167 (SB + 22) 167 (hp S J T) else fX11_readLine_65 167 (SB + 22) 167 (hp S J T)) = fX11_readLine_66 167 (bI (decide (c 4 < 8))) (SB + 22) 167 (hp S J T) := by
      by_cases zc : c 4 < 8
      · rw [if_pos (ltn zc (by omega)), decide_eq_true zc]
        unfold fX11_readLine_61
        rw [kI_1, bI_t]
      · rw [if_neg (nltn zc (by omega) (by omega)), decide_eq_false zc]
        unfold fX11_readLine_65
        rw [kI_0, bI_f]
    unfold fX11_readLine_47 fX11_readLine_48 fX11_readLine_50
    rw [mo_f16, Option.bind_some, kI_4, mo_r16 (by omega), Option.bind_some, h2.1 4 (by omega), kB_8, eb]
    unfold fX11_readLine_66
    rw [mo_isO, Option.bind_some, a1, Option.bind_some]
    unfold fX11_readLine_69
    rw [if_neg (show ¬ nI 1 = 0 by decide)]
  rw [e1]
  unfold fX11_readLine_72 fX11_readLine_73 pNam pBeg
  dsimp only
  rw [mo_isO, Option.bind_some]
  by_cases zc : c 4 < 8
  · rw [decide_eq_true zc, if_pos rfl] at a2
    rw [if_pos zc]
    by_cases z8 : c 8 = 0
    · rw [if_pos z8] at a2
      rw [if_pos z8]
      have a2' : fTM S1 (6, s) := a2
      exact ⟨S1, by rw [c_namF a2'.1, Option.bind_some]; rfl, a2', frM_O a3⟩
    · rw [if_neg z8] at a2
      rw [if_neg z8]
      have a2' : tM S1 y n (nx y n s) := a2
      obtain ⟨S2, b1, b2, b3⟩ := c_namM (J := J) (T := T) (S := S1) (R := R) (W := W) (c := c) (s := nx y n s) ⟨a2', rwM_N h2 (frM_N a3), wrM_cg h3 (a3.1 171 (by omega) (by omega))⟩ hi zc
      exact ⟨S2, by rw [b1, Option.bind_some]; rfl, b2, frO_tr (frM_O a3) b3⟩
  · rw [decide_eq_false zc, if_neg (by decide)] at a2
    rw [if_neg zc]
    have a2' : fTM S1 (5, s) := a2
    exact ⟨S1, by rw [c_namF a2'.1, Option.bind_some]; rfl, a2', frM_O a3⟩
set_option maxRecDepth 100000 in
set_option maxHeartbeats 400000 in
theorem n_ln3 (h1 : tM S y n s) (h2 : rwM S R c) (hi : cB c) (hw : wdB y n s 3 = false) : fX11_readLine_79 167 (hp S J T) = fX11_readLine_111 167 (hp S J T) := by
    obtain ⟨k3, k4, k5, k6, k7, k8⟩ := hi
    have hw' : wdB y n s (stN 23) = false := hw
    have eb : (if nI (c 5) < nI 8 then fX11_readLine_93 167 (SB + 23) 167 (hp S J T) else fX11_readLine_97 167 (SB + 23) 167 (hp S J T)) = fX11_readLine_98 167 (bI (decide (c 5 < 8))) (SB + 23) 167 (hp S J T) := by
      by_cases zc : c 5 < 8
      · rw [if_pos (ltn zc (by omega)), decide_eq_true zc]
        unfold fX11_readLine_93
        rw [kI_1, bI_t]
      · rw [if_neg (nltn zc (by omega) (by omega)), decide_eq_false zc]
        unfold fX11_readLine_97
        rw [kI_0, bI_f]
    unfold fX11_readLine_79 fX11_readLine_80 fX11_readLine_82
    rw [mo_f16, Option.bind_some, kI_5, mo_r16 (by omega), Option.bind_some, h2.1 5 (by omega), kB_8, eb]
    unfold fX11_readLine_98
    rw [mo_isO, Option.bind_some, c_bgn0 h1 (by omega) hw', Option.bind_some]
    unfold fX11_readLine_101
    rw [if_pos (show nI 0 = 0 from rfl)]
set_option maxRecDepth 100000 in
set_option maxHeartbeats 400000 in
theorem y_ln3 (h : stM S y n (R, W, c, s)) (hi : pIv R W c) (hw : wdB y n s 3 = true) : ∃ S', fX11_readLine_79 167 (hp S J T) = some (hp S' J T) ∧ outM S' (pFst y n (R, W, c, s)) (fun q => stM S' y n q) ∧ frO S S' := by
  obtain ⟨h1, h2, h3⟩ := h
  dsimp only at h1 h2 h3
  obtain ⟨k3, k4, k5, k6, k7, k8⟩ := hi.1
  have hw' : wdB y n s (stN 23) = true := hw
  obtain ⟨S1, a1, a2, a3⟩ := c_bgn1 (J := J) (T := T) h1 (i := 23) (by omega) hw' (h2.1 8 (by omega)) k8 (decide (c 5 < 8))
  have e1 : fX11_readLine_79 167 (hp S J T) = fX11_readLine_104 167 (hp S1 J T) := by
    have eb : (if nI (c 5) < nI 8 then fX11_readLine_93 167 (SB + 23) 167 (hp S J T) else fX11_readLine_97 167 (SB + 23) 167 (hp S J T)) = fX11_readLine_98 167 (bI (decide (c 5 < 8))) (SB + 23) 167 (hp S J T) := by
      by_cases zc : c 5 < 8
      · rw [if_pos (ltn zc (by omega)), decide_eq_true zc]
        unfold fX11_readLine_93
        rw [kI_1, bI_t]
      · rw [if_neg (nltn zc (by omega) (by omega)), decide_eq_false zc]
        unfold fX11_readLine_97
        rw [kI_0, bI_f]
    unfold fX11_readLine_79 fX11_readLine_80 fX11_readLine_82
    rw [mo_f16, Option.bind_some, kI_5, mo_r16 (by omega), Option.bind_some, h2.1 5 (by omega), kB_8, eb]
    unfold fX11_readLine_98
    rw [mo_isO, Option.bind_some, a1, Option.bind_some]
    unfold fX11_readLine_101
    rw [if_neg (show ¬ nI 1 = 0 by decide)]
  rw [e1]
  unfold fX11_readLine_104 fX11_readLine_105 pFst pBeg
  dsimp only
  rw [mo_isO, Option.bind_some]
  by_cases zc : c 5 < 8
  · rw [decide_eq_true zc, if_pos rfl] at a2
    rw [if_pos zc]
    by_cases z8 : c 8 = 0
    · rw [if_pos z8] at a2
      rw [if_pos z8]
      have a2' : fTM S1 (6, s) := a2
      exact ⟨S1, by rw [c_fstF a2'.1, Option.bind_some]; rfl, a2', frM_O a3⟩
    · rw [if_neg z8] at a2
      rw [if_neg z8]
      have a2' : tM S1 y n (nx y n s) := a2
      obtain ⟨S2, b1, b2, b3⟩ := c_fstM (J := J) (T := T) (S := S1) (R := R) (W := W) (c := c) (s := nx y n s) ⟨a2', rwM_N h2 (frM_N a3), wrM_cg h3 (a3.1 171 (by omega) (by omega))⟩ hi zc
      exact ⟨S2, by rw [b1, Option.bind_some]; rfl, b2, frO_tr (frM_O a3) b3⟩
  · rw [decide_eq_false zc, if_neg (by decide)] at a2
    rw [if_neg zc]
    have a2' : fTM S1 (5, s) := a2
    exact ⟨S1, by rw [c_fstF a2'.1, Option.bind_some]; rfl, a2', frM_O a3⟩
set_option maxRecDepth 100000 in
set_option maxHeartbeats 400000 in
theorem n_ln4 (h1 : tM S y n s) (h2 : rwM S R c) (hi : cB c) (hw : wdB y n s 4 = false) : fX11_readLine_111 167 (hp S J T) = fX11_readLine_143 167 (hp S J T) := by
    obtain ⟨k3, k4, k5, k6, k7, k8⟩ := hi
    have hw' : wdB y n s (stN 24) = false := hw
    have eb : (if nI (c 6) < nI 4 then fX11_readLine_125 167 (SB + 24) 167 (hp S J T) else fX11_readLine_129 167 (SB + 24) 167 (hp S J T)) = fX11_readLine_130 167 (bI (decide (c 6 < 4))) (SB + 24) 167 (hp S J T) := by
      by_cases zc : c 6 < 4
      · rw [if_pos (ltn zc (by omega)), decide_eq_true zc]
        unfold fX11_readLine_125
        rw [kI_1, bI_t]
      · rw [if_neg (nltn zc (by omega) (by omega)), decide_eq_false zc]
        unfold fX11_readLine_129
        rw [kI_0, bI_f]
    unfold fX11_readLine_111 fX11_readLine_112 fX11_readLine_114
    rw [mo_f16, Option.bind_some, kB_6, mo_r16 (by omega), Option.bind_some, h2.1 6 (by omega), kI_4, eb]
    unfold fX11_readLine_130
    rw [mo_isO, Option.bind_some, c_bgn0 h1 (by omega) hw', Option.bind_some]
    unfold fX11_readLine_133
    rw [if_pos (show nI 0 = 0 from rfl)]
set_option maxRecDepth 100000 in
set_option maxHeartbeats 400000 in
theorem y_ln4 (h : stM S y n (R, W, c, s)) (hi : pIv R W c) (hw : wdB y n s 4 = true) : ∃ S', fX11_readLine_111 167 (hp S J T) = some (hp S' J T) ∧ outM S' (pUns y n (R, W, c, s)) (fun q => stM S' y n q) ∧ frO S S' := by
  obtain ⟨h1, h2, h3⟩ := h
  dsimp only at h1 h2 h3
  obtain ⟨k3, k4, k5, k6, k7, k8⟩ := hi.1
  have hw' : wdB y n s (stN 24) = true := hw
  obtain ⟨S1, a1, a2, a3⟩ := c_bgn1 (J := J) (T := T) h1 (i := 24) (by omega) hw' (h2.1 8 (by omega)) k8 (decide (c 6 < 4))
  have e1 : fX11_readLine_111 167 (hp S J T) = fX11_readLine_136 167 (hp S1 J T) := by
    have eb : (if nI (c 6) < nI 4 then fX11_readLine_125 167 (SB + 24) 167 (hp S J T) else fX11_readLine_129 167 (SB + 24) 167 (hp S J T)) = fX11_readLine_130 167 (bI (decide (c 6 < 4))) (SB + 24) 167 (hp S J T) := by
      by_cases zc : c 6 < 4
      · rw [if_pos (ltn zc (by omega)), decide_eq_true zc]
        unfold fX11_readLine_125
        rw [kI_1, bI_t]
      · rw [if_neg (nltn zc (by omega) (by omega)), decide_eq_false zc]
        unfold fX11_readLine_129
        rw [kI_0, bI_f]
    unfold fX11_readLine_111 fX11_readLine_112 fX11_readLine_114
    rw [mo_f16, Option.bind_some, kB_6, mo_r16 (by omega), Option.bind_some, h2.1 6 (by omega), kI_4, eb]
    unfold fX11_readLine_130
    rw [mo_isO, Option.bind_some, a1, Option.bind_some]
    unfold fX11_readLine_133
    rw [if_neg (show ¬ nI 1 = 0 by decide)]
  rw [e1]
  unfold fX11_readLine_136 fX11_readLine_137 pUns pBeg
  dsimp only
  rw [mo_isO, Option.bind_some]
  by_cases zc : c 6 < 4
  · rw [decide_eq_true zc, if_pos rfl] at a2
    rw [if_pos zc]
    by_cases z8 : c 8 = 0
    · rw [if_pos z8] at a2
      rw [if_pos z8]
      have a2' : fTM S1 (6, s) := a2
      exact ⟨S1, by rw [c_unsF a2'.1, Option.bind_some]; rfl, a2', frM_O a3⟩
    · rw [if_neg z8] at a2
      rw [if_neg z8]
      have a2' : tM S1 y n (nx y n s) := a2
      obtain ⟨S2, b1, b2, b3⟩ := c_unsM (J := J) (T := T) (S := S1) (R := R) (W := W) (c := c) (s := nx y n s) ⟨a2', rwM_N h2 (frM_N a3), wrM_cg h3 (a3.1 171 (by omega) (by omega))⟩ hi zc
      exact ⟨S2, by rw [b1, Option.bind_some]; rfl, b2, frO_tr (frM_O a3) b3⟩
  · rw [decide_eq_false zc, if_neg (by decide)] at a2
    rw [if_neg zc]
    have a2' : fTM S1 (5, s) := a2
    exact ⟨S1, by rw [c_unsF a2'.1, Option.bind_some]; rfl, a2', frM_O a3⟩
set_option maxRecDepth 100000 in
set_option maxHeartbeats 400000 in
theorem n_ln5 (h1 : tM S y n s) (h2 : rwM S R c) (hi : cB c) (hw : wdB y n s 5 = false) : fX11_readLine_143 167 (hp S J T) = fX11_readLine_176 167 (hp S J T) := by
    obtain ⟨k3, k4, k5, k6, k7, k8⟩ := hi
    have hw' : wdB y n s (stN 25) = false := hw
    have eb : (if nI (c 7) < nI 6 then fX11_readLine_158 167 (SB + 25) 167 (hp S J T) else fX11_readLine_162 167 (SB + 25) 167 (hp S J T)) = fX11_readLine_163 167 (bI (decide (c 7 < 6))) (SB + 25) 167 (hp S J T) := by
      by_cases zc : c 7 < 6
      · rw [if_pos (ltn zc (by omega)), decide_eq_true zc]
        unfold fX11_readLine_158
        rw [kI_1, bI_t]
      · rw [if_neg (nltn zc (by omega) (by omega)), decide_eq_false zc]
        unfold fX11_readLine_162
        rw [kI_0, bI_f]
    unfold fX11_readLine_143 fX11_readLine_144 fX11_readLine_146
    rw [mo_f16, Option.bind_some, kB_7, mo_r16 (by omega), Option.bind_some, h2.1 7 (by omega), kB_6, eb]
    unfold fX11_readLine_163
    rw [mo_isO, Option.bind_some, c_bgn0 h1 (by omega) hw', Option.bind_some]
    unfold fX11_readLine_166
    rw [if_pos (show nI 0 = 0 from rfl)]
set_option maxRecDepth 100000 in
set_option maxHeartbeats 400000 in
theorem y_ln5 (h : stM S y n (R, W, c, s)) (hi : pIv R W c) (hw : wdB y n s 5 = true) : ∃ S', fX11_readLine_143 167 (hp S J T) = some (hp S' J T) ∧ outM S' (pHrd y n (R, W, c, s)) (fun q => stM S' y n q) ∧ frO S S' := by
  obtain ⟨h1, h2, h3⟩ := h
  dsimp only at h1 h2 h3
  obtain ⟨k3, k4, k5, k6, k7, k8⟩ := hi.1
  have hw' : wdB y n s (stN 25) = true := hw
  obtain ⟨S1, a1, a2, a3⟩ := c_bgn1 (J := J) (T := T) h1 (i := 25) (by omega) hw' (h2.1 8 (by omega)) k8 (decide (c 7 < 6))
  have e1 : fX11_readLine_143 167 (hp S J T) = fX11_readLine_169 167 (hp S1 J T) := by
    have eb : (if nI (c 7) < nI 6 then fX11_readLine_158 167 (SB + 25) 167 (hp S J T) else fX11_readLine_162 167 (SB + 25) 167 (hp S J T)) = fX11_readLine_163 167 (bI (decide (c 7 < 6))) (SB + 25) 167 (hp S J T) := by
      by_cases zc : c 7 < 6
      · rw [if_pos (ltn zc (by omega)), decide_eq_true zc]
        unfold fX11_readLine_158
        rw [kI_1, bI_t]
      · rw [if_neg (nltn zc (by omega) (by omega)), decide_eq_false zc]
        unfold fX11_readLine_162
        rw [kI_0, bI_f]
    unfold fX11_readLine_143 fX11_readLine_144 fX11_readLine_146
    rw [mo_f16, Option.bind_some, kB_7, mo_r16 (by omega), Option.bind_some, h2.1 7 (by omega), kB_6, eb]
    unfold fX11_readLine_163
    rw [mo_isO, Option.bind_some, a1, Option.bind_some]
    unfold fX11_readLine_166
    rw [if_neg (show ¬ nI 1 = 0 by decide)]
  rw [e1]
  unfold fX11_readLine_169 fX11_readLine_170 pHrd pBeg
  dsimp only
  rw [mo_isO, Option.bind_some]
  by_cases zc : c 7 < 6
  · rw [decide_eq_true zc, if_pos rfl] at a2
    rw [if_pos zc]
    by_cases z8 : c 8 = 0
    · rw [if_pos z8] at a2
      rw [if_pos z8]
      have a2' : fTM S1 (6, s) := a2
      exact ⟨S1, by rw [c_hrdF a2'.1, Option.bind_some]; rfl, a2', frM_O a3⟩
    · rw [if_neg z8] at a2
      rw [if_neg z8]
      have a2' : tM S1 y n (nx y n s) := a2
      obtain ⟨S2, b1, b2, b3⟩ := c_hrdM (J := J) (T := T) (S := S1) (R := R) (W := W) (c := c) (s := nx y n s) ⟨a2', rwM_N h2 (frM_N a3), wrM_cg h3 (a3.1 171 (by omega) (by omega))⟩ hi zc
      exact ⟨S2, by rw [b1, Option.bind_some]; rfl, b2, frO_tr (frM_O a3) b3⟩
  · rw [decide_eq_false zc, if_neg (by decide)] at a2
    rw [if_neg zc]
    have a2' : fTM S1 (5, s) := a2
    exact ⟨S1, by rw [c_hrdF a2'.1, Option.bind_some]; rfl, a2', frM_O a3⟩
set_option maxRecDepth 100000 in
set_option maxHeartbeats 400000 in
theorem c_linM {q : PSt} (h : stM S y n q) (hi : pIv q.1 q.2.1 q.2.2.1) : ∃ S', gX11_readLine 167 (hp S J T) = some (hp S' J T) ∧ outM S' (pLin y n q) (fun q => stM S' y n q) ∧ frO S S' := by
  obtain ⟨R, W, c, s⟩ := q
  dsimp only at hi
  obtain ⟨h1, h2, h3⟩ := id h
  dsimp only at h1 h2 h3
  have hc8 := hi.1.2.2.2.2.2
  unfold gX11_readLine fX11_readLine_0 fX11_readLine_1 fX11_readLine_3 pLin lsN
  dsimp only
  rw [mo_isO, Option.bind_some, c_isWM h1 (by omega), Option.bind_some, show stN 17 = 0 from rfl]
  unfold fX11_readLine_6
  cases z0 : wdB y n s 0 with
  | true =>
    rw [if_neg (show ¬ bI true = 0 by decide), if_pos rfl]
    obtain ⟨S1, a1, a2, a3⟩ := c_tabM (J := J) (T := T) h z0 hc8
    refine ⟨S1, ?_, a2, a3⟩
    unfold fX11_readLine_9 fX11_readLine_10
    rw [mo_isO, Option.bind_some, a1, Option.bind_some]
    rfl
  | false =>
    rw [if_pos (show bI false = 0 by decide), if_neg (by decide)]
    cases z1 : wdB y n s 1 with
    | true =>
      rw [if_pos rfl]
      exact y_ln1 h hi z1
    | false =>
      rw [n_ln1 h1 h2 hi.1 z1, if_neg (by decide)]
      cases z2 : wdB y n s 2 with
      | true =>
        rw [if_pos rfl]
        exact y_ln2 h hi z2
      | false =>
        rw [n_ln2 h1 h2 hi.1 z2, if_neg (by decide)]
        cases z3 : wdB y n s 3 with
        | true =>
          rw [if_pos rfl]
          exact y_ln3 h hi z3
        | false =>
          rw [n_ln3 h1 h2 hi.1 z3, if_neg (by decide)]
          cases z4 : wdB y n s 4 with
          | true =>
            rw [if_pos rfl]
            exact y_ln4 h hi z4
          | false =>
            rw [n_ln4 h1 h2 hi.1 z4, if_neg (by decide)]
            cases z5 : wdB y n s 5 with
            | true =>
              rw [if_pos rfl]
              exact y_ln5 h hi z5
            | false =>
              rw [n_ln5 h1 h2 hi.1 z5, if_neg (by decide)]
              obtain ⟨S4, g1, g2, g3⟩ := c_wrg (J := J) (T := T) h1.2.2.2.1 1 s
              refine ⟨S4, ?_, g2, frM_O g3⟩
              unfold fX11_readLine_176 fX11_readLine_182
              rw [mo_g4, Option.bind_some, h1.2.2.2.2.1, mo_isO, Option.bind_some, kI_1, g1, Option.bind_some]
              rfl
end RMD

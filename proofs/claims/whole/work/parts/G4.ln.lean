-- LINES: any line, the class
set_option maxRecDepth 100000 in
set_option maxHeartbeats 400000 in
theorem bdP_r {α β : Type} {a : α} {f : α → PR β} : bdP (.inr a) f = f a := rfl
set_option maxRecDepth 100000 in
set_option maxHeartbeats 400000 in
theorem bdP_l {α β : Type} {e : Nat × Nat} {f : α → PR β} : bdP (.inl e) f = .inl e := rfl
set_option maxRecDepth 100000 in
set_option maxHeartbeats 400000 in
theorem clS_fr {S S' : Mem} {y : Nat → Nat} {n t s s' : Nat} {R : Row} {W : WL} {c : Nat → Nat} (h : clS S t y n (R, W, c, s)) (hf : frR S S') (ht : tC S' y n s') (ht1 : t ≠ 1) : clS S' t y n (R, W, c, s') := by
  obtain ⟨h1, h2, h3, h4, h5, h6, h7⟩ := h
  dsimp only at h1 h2 h3 h4 h5 h6 h7
  refine ⟨ht, wrC_fr h2 hf, h3, fun j hj => ?_, ?_, h6, fun j hj => ?_⟩
  · rw [hf.1 t ht1]; exact h4 j hj
  · rw [hf.2 14 (by omega) (by omega) (by omega) (by omega) (by omega) (by omega)]; exact h5
  · rw [hf.1 t ht1]; exact h7 j hj
section LN4
variable {S : Mem} {J : MeJ} {T : Nat → Nat} {y : Nat → Nat} {n t s : Nat}
set_option maxRecDepth 100000 in
set_option maxHeartbeats 400000 in
theorem c_ln1 (htl : tlA t) (ht0 : 56 ≤ t) {R : Row} {W : WL} {c : Nat → Nat} (h : clS S t y n (R, W, c, s)) : ∃ S' b, fX8_readLine_4 1 t (nI 1) (hp S J T) = some (b, hp S' J T) ∧ outC S' b (pPer y n (R, W, c, s)) (fun q => clS S' t y n q) ∧ fr S S' (LnS t) := by
  obtain ⟨h1, h2, h3, h4, h5, h6, h7⟩ := id h
  dsimp only at h1 h2 h3 h4 h5 h6 h7
  have hP := h4 3 (by omega)
  obtain ⟨k3, k4, k5, k6, k7, k8⟩ := id h6
  have e0 : fX8_readLine_4 1 t (nI 1) (hp S J T) = fX8_readLine_37 1 t (nI 1) (bI (decide (5 ≤ c 3))) (hp S J T) := by
    unfold fX8_readLine_4
    rw [if_neg (show ¬ nI 1 < 0 by decide)]
    unfold fX8_readLine_15
    rw [if_neg (show ¬ nI 1 = 0 by decide)]
    unfold fX8_readLine_32 fX8_readLine_34 gX8_isFull fX8_isFull_0 fX8_isFull_1
    rw [kI_1, if_pos rfl]
    unfold fX8_isFull_36
    rw [tl_g3 htl, Option.bind_some, hP, kI_5]
    by_cases zf : c 3 < 5
    · rw [if_pos (ltn zf (by omega)), decide_eq_false (show ¬ 5 ≤ c 3 by omega)]
      unfold fX8_isFull_48 fX8_isFull_49
      rw [kI_0, if_pos o_0, Option.bind_some, bI_f]
    · rw [if_neg (nltn zf (by omega) (by omega)), decide_eq_true (show 5 ≤ c 3 by omega)]
      unfold fX8_isFull_44 fX8_isFull_49
      rw [kI_1, if_pos o_1, Option.bind_some, bI_t]
  rw [e0]
  unfold fX8_readLine_37
  by_cases zf : c 3 < 5
  · rw [decide_eq_false (show ¬ 5 ≤ c 3 by omega), if_pos (show bI false = 0 by decide)]
    unfold fX8_readLine_46
    rw [if_neg (show ¬ nI 1 = 0 by decide)]
    unfold fX8_readLine_50
    rw [rd_g14, Option.bind_some, h5]
    by_cases z8 : c 8 = 0
    · rw [z8, if_pos (show nI 0 = 0 from rfl)]
      have eB : pPer y n (R, W, c, s) = .inl (6, s) := by
        unfold pPer
        rw [show pBeg (R, W, c, s) 5 3 = .inl (6, s) by show (if c 3 < 5 then (if c 8 = 0 then _ else _) else _) = _; rw [if_pos zf, if_pos z8], bdP_l]
      obtain ⟨S4, g1, g2, g3, g4⟩ := c_failC (J := J) (T := T) h1 6
      refine ⟨S4, nI 0, ?_, by rw [eB]; exact ⟨rfl, g2, g3⟩, frR_L g4⟩
      unfold fX8_readLine_57 fX8_readLine_60
      rw [rd_isO, Option.bind_some, kB_6, g1, Option.bind_some]
      unfold fX8_readLine_63
      rw [if_pos o_0]
    · have z81 : c 8 = 1 := by omega
      rw [z81, if_neg (show ¬ nI 1 = 0 by decide)]
      obtain ⟨S2, a1, a2, a3⟩ := s_stepR (J := J) (T := T) h1
      obtain ⟨S3, b, r1, r2, r3⟩ := c_rPer (J := J) (T := T) htl ht0 (clS_fr h a3 a2 (by omega)) zf
      refine ⟨S3, b, ?_, ?_, fr_tr (frR_L a3) r3.1⟩
      · unfold fX8_readLine_64 fX8_readLine_65
        rw [rd_isO, Option.bind_some, a1, Option.bind_some]
        unfold fX8_readLine_68 fX8_readLine_69
        rw [kI_0, kI_1, if_neg (show ¬ nI 1 = nI 0 by decide), if_pos rfl]
        unfold fX8_readLine_110 fX8_readLine_112
        rw [rd_isO, Option.bind_some, r1, Option.bind_some]
        unfold fX8_readLine_115
        rw [if_pos (outC_b r2)]
      · unfold pPer
        rw [show pBeg (R, W, c, s) 5 3 = .inr 0 by show (if c 3 < 5 then (if c 8 = 0 then _ else _) else _) = _; rw [if_pos zf, if_neg z8], bdP_r]
        exact r2
  · rw [decide_eq_true (show 5 ≤ c 3 by omega), if_neg (show ¬ bI true = 0 by decide)]
    have eB : pPer y n (R, W, c, s) = .inl (5, s) := by
      unfold pPer
      rw [show pBeg (R, W, c, s) 5 3 = .inl (5, s) by show (if c 3 < 5 then (if c 8 = 0 then _ else _) else _) = _; rw [if_neg zf], bdP_l]
    obtain ⟨S4, g1, g2, g3, g4⟩ := c_failC (J := J) (T := T) h1 5
    refine ⟨S4, nI 0, ?_, by rw [eB]; exact ⟨rfl, g2, g3⟩, frR_L g4⟩
    unfold fX8_readLine_40 fX8_readLine_42
    rw [rd_isO, Option.bind_some, kI_5, g1, Option.bind_some]
    unfold fX8_readLine_45
    rw [if_pos o_0]
set_option maxRecDepth 100000 in
set_option maxHeartbeats 400000 in
theorem c_ln2 (htl : tlA t) (ht0 : 56 ≤ t) {R : Row} {W : WL} {c : Nat → Nat} (h : clS S t y n (R, W, c, s)) : ∃ S' b, fX8_readLine_4 1 t (nI 2) (hp S J T) = some (b, hp S' J T) ∧ outC S' b (pNam y n (R, W, c, s)) (fun q => clS S' t y n q) ∧ fr S S' (LnS t) := by
  obtain ⟨h1, h2, h3, h4, h5, h6, h7⟩ := id h
  dsimp only at h1 h2 h3 h4 h5 h6 h7
  have hP := h4 4 (by omega)
  obtain ⟨k3, k4, k5, k6, k7, k8⟩ := id h6
  have e0 : fX8_readLine_4 1 t (nI 2) (hp S J T) = fX8_readLine_37 1 t (nI 2) (bI (decide (8 ≤ c 4))) (hp S J T) := by
    unfold fX8_readLine_4
    rw [if_neg (show ¬ nI 2 < 0 by decide)]
    unfold fX8_readLine_15
    rw [if_neg (show ¬ nI 2 = 0 by decide)]
    unfold fX8_readLine_32 fX8_readLine_34 gX8_isFull fX8_isFull_0 fX8_isFull_1
    rw [kI_1, kI_2, if_neg (show ¬ nI 2 = nI 1 by decide), if_pos rfl]
    unfold fX8_isFull_50
    rw [tl_g4 htl, Option.bind_some, hP, kB_8]
    by_cases zf : c 4 < 8
    · rw [if_pos (ltn zf (by omega)), decide_eq_false (show ¬ 8 ≤ c 4 by omega)]
      unfold fX8_isFull_63 fX8_isFull_64
      rw [kI_0, if_pos o_0, Option.bind_some, bI_f]
    · rw [if_neg (nltn zf (by omega) (by omega)), decide_eq_true (show 8 ≤ c 4 by omega)]
      unfold fX8_isFull_59 fX8_isFull_64
      rw [kI_1, if_pos o_1, Option.bind_some, bI_t]
  rw [e0]
  unfold fX8_readLine_37
  by_cases zf : c 4 < 8
  · rw [decide_eq_false (show ¬ 8 ≤ c 4 by omega), if_pos (show bI false = 0 by decide)]
    unfold fX8_readLine_46
    rw [if_neg (show ¬ nI 2 = 0 by decide)]
    unfold fX8_readLine_50
    rw [rd_g14, Option.bind_some, h5]
    by_cases z8 : c 8 = 0
    · rw [z8, if_pos (show nI 0 = 0 from rfl)]
      have eB : pNam y n (R, W, c, s) = .inl (6, s) := by
        unfold pNam
        rw [show pBeg (R, W, c, s) 8 4 = .inl (6, s) by show (if c 4 < 8 then (if c 8 = 0 then _ else _) else _) = _; rw [if_pos zf, if_pos z8], bdP_l]
      obtain ⟨S4, g1, g2, g3, g4⟩ := c_failC (J := J) (T := T) h1 6
      refine ⟨S4, nI 0, ?_, by rw [eB]; exact ⟨rfl, g2, g3⟩, frR_L g4⟩
      unfold fX8_readLine_57 fX8_readLine_60
      rw [rd_isO, Option.bind_some, kB_6, g1, Option.bind_some]
      unfold fX8_readLine_63
      rw [if_pos o_0]
    · have z81 : c 8 = 1 := by omega
      rw [z81, if_neg (show ¬ nI 1 = 0 by decide)]
      obtain ⟨S2, a1, a2, a3⟩ := s_stepR (J := J) (T := T) h1
      obtain ⟨S3, b, r1, r2, r3⟩ := c_rNam (J := J) (T := T) htl ht0 (clS_fr h a3 a2 (by omega)) zf
      refine ⟨S3, b, ?_, ?_, fr_tr (frR_L a3) r3.1⟩
      · unfold fX8_readLine_64 fX8_readLine_65
        rw [rd_isO, Option.bind_some, a1, Option.bind_some]
        unfold fX8_readLine_68 fX8_readLine_69
        rw [kI_0, kI_1, kI_2, if_neg (show ¬ nI 2 = nI 0 by decide), if_neg (show ¬ nI 2 = nI 1 by decide), if_pos rfl]
        unfold fX8_readLine_116 fX8_readLine_118
        rw [rd_isO, Option.bind_some, r1, Option.bind_some]
        unfold fX8_readLine_121
        rw [if_pos (outC_b r2)]
      · unfold pNam
        rw [show pBeg (R, W, c, s) 8 4 = .inr 0 by show (if c 4 < 8 then (if c 8 = 0 then _ else _) else _) = _; rw [if_pos zf, if_neg z8], bdP_r]
        exact r2
  · rw [decide_eq_true (show 8 ≤ c 4 by omega), if_neg (show ¬ bI true = 0 by decide)]
    have eB : pNam y n (R, W, c, s) = .inl (5, s) := by
      unfold pNam
      rw [show pBeg (R, W, c, s) 8 4 = .inl (5, s) by show (if c 4 < 8 then (if c 8 = 0 then _ else _) else _) = _; rw [if_neg zf], bdP_l]
    obtain ⟨S4, g1, g2, g3, g4⟩ := c_failC (J := J) (T := T) h1 5
    refine ⟨S4, nI 0, ?_, by rw [eB]; exact ⟨rfl, g2, g3⟩, frR_L g4⟩
    unfold fX8_readLine_40 fX8_readLine_42
    rw [rd_isO, Option.bind_some, kI_5, g1, Option.bind_some]
    unfold fX8_readLine_45
    rw [if_pos o_0]
set_option maxRecDepth 100000 in
set_option maxHeartbeats 400000 in
theorem c_ln3 (htl : tlA t) (ht0 : 56 ≤ t) {R : Row} {W : WL} {c : Nat → Nat} (h : clS S t y n (R, W, c, s)) (hv : ∀ k, k < c 5 → ∃ v, v < 5 ∧ R (35 + 2 * k) = nI v) : ∃ S' b, fX8_readLine_4 1 t (nI 3) (hp S J T) = some (b, hp S' J T) ∧ outC S' b (pFst y n (R, W, c, s)) (fun q => clS S' t y n q) ∧ fr S S' (LnS t) := by
  obtain ⟨h1, h2, h3, h4, h5, h6, h7⟩ := id h
  dsimp only at h1 h2 h3 h4 h5 h6 h7
  have hP := h4 5 (by omega)
  obtain ⟨k3, k4, k5, k6, k7, k8⟩ := id h6
  have e0 : fX8_readLine_4 1 t (nI 3) (hp S J T) = fX8_readLine_37 1 t (nI 3) (bI (decide (8 ≤ c 5))) (hp S J T) := by
    unfold fX8_readLine_4
    rw [if_neg (show ¬ nI 3 < 0 by decide)]
    unfold fX8_readLine_15
    rw [if_neg (show ¬ nI 3 = 0 by decide)]
    unfold fX8_readLine_32 fX8_readLine_34 gX8_isFull fX8_isFull_0 fX8_isFull_1
    rw [kI_1, kI_2, kI_3, if_neg (show ¬ nI 3 = nI 1 by decide), if_neg (show ¬ nI 3 = nI 2 by decide), if_pos rfl]
    unfold fX8_isFull_65
    rw [tl_g5 htl, Option.bind_some, hP, kB_8]
    by_cases zf : c 5 < 8
    · rw [if_pos (ltn zf (by omega)), decide_eq_false (show ¬ 8 ≤ c 5 by omega)]
      unfold fX8_isFull_78 fX8_isFull_79
      rw [kI_0, if_pos o_0, Option.bind_some, bI_f]
    · rw [if_neg (nltn zf (by omega) (by omega)), decide_eq_true (show 8 ≤ c 5 by omega)]
      unfold fX8_isFull_74 fX8_isFull_79
      rw [kI_1, if_pos o_1, Option.bind_some, bI_t]
  rw [e0]
  unfold fX8_readLine_37
  by_cases zf : c 5 < 8
  · rw [decide_eq_false (show ¬ 8 ≤ c 5 by omega), if_pos (show bI false = 0 by decide)]
    unfold fX8_readLine_46
    rw [if_neg (show ¬ nI 3 = 0 by decide)]
    unfold fX8_readLine_50
    rw [rd_g14, Option.bind_some, h5]
    by_cases z8 : c 8 = 0
    · rw [z8, if_pos (show nI 0 = 0 from rfl)]
      have eB : pFst y n (R, W, c, s) = .inl (6, s) := by
        unfold pFst
        rw [show pBeg (R, W, c, s) 8 5 = .inl (6, s) by show (if c 5 < 8 then (if c 8 = 0 then _ else _) else _) = _; rw [if_pos zf, if_pos z8], bdP_l]
      obtain ⟨S4, g1, g2, g3, g4⟩ := c_failC (J := J) (T := T) h1 6
      refine ⟨S4, nI 0, ?_, by rw [eB]; exact ⟨rfl, g2, g3⟩, frR_L g4⟩
      unfold fX8_readLine_57 fX8_readLine_60
      rw [rd_isO, Option.bind_some, kB_6, g1, Option.bind_some]
      unfold fX8_readLine_63
      rw [if_pos o_0]
    · have z81 : c 8 = 1 := by omega
      rw [z81, if_neg (show ¬ nI 1 = 0 by decide)]
      obtain ⟨S2, a1, a2, a3⟩ := s_stepR (J := J) (T := T) h1
      obtain ⟨S3, b, r1, r2, r3⟩ := c_rFst (J := J) (T := T) htl ht0 (clS_fr h a3 a2 (by omega)) zf hv
      refine ⟨S3, b, ?_, ?_, fr_tr (frR_L a3) r3.1⟩
      · unfold fX8_readLine_64 fX8_readLine_65
        rw [rd_isO, Option.bind_some, a1, Option.bind_some]
        unfold fX8_readLine_68 fX8_readLine_69
        rw [kI_0, kI_1, kI_2, kI_3, if_neg (show ¬ nI 3 = nI 0 by decide), if_neg (show ¬ nI 3 = nI 1 by decide), if_neg (show ¬ nI 3 = nI 2 by decide), if_pos rfl]
        unfold fX8_readLine_122 fX8_readLine_124
        rw [rd_isO, Option.bind_some, r1, Option.bind_some]
        unfold fX8_readLine_127
        rw [if_pos (outC_b r2)]
      · unfold pFst
        rw [show pBeg (R, W, c, s) 8 5 = .inr 0 by show (if c 5 < 8 then (if c 8 = 0 then _ else _) else _) = _; rw [if_pos zf, if_neg z8], bdP_r]
        exact r2
  · rw [decide_eq_true (show 8 ≤ c 5 by omega), if_neg (show ¬ bI true = 0 by decide)]
    have eB : pFst y n (R, W, c, s) = .inl (5, s) := by
      unfold pFst
      rw [show pBeg (R, W, c, s) 8 5 = .inl (5, s) by show (if c 5 < 8 then (if c 8 = 0 then _ else _) else _) = _; rw [if_neg zf], bdP_l]
    obtain ⟨S4, g1, g2, g3, g4⟩ := c_failC (J := J) (T := T) h1 5
    refine ⟨S4, nI 0, ?_, by rw [eB]; exact ⟨rfl, g2, g3⟩, frR_L g4⟩
    unfold fX8_readLine_40 fX8_readLine_42
    rw [rd_isO, Option.bind_some, kI_5, g1, Option.bind_some]
    unfold fX8_readLine_45
    rw [if_pos o_0]
set_option maxRecDepth 100000 in
set_option maxHeartbeats 400000 in
theorem c_ln4 (htl : tlA t) (ht0 : 56 ≤ t) {R : Row} {W : WL} {c : Nat → Nat} (h : clS S t y n (R, W, c, s)) : ∃ S' b, fX8_readLine_4 1 t (nI 4) (hp S J T) = some (b, hp S' J T) ∧ outC S' b (pUns y n (R, W, c, s)) (fun q => clS S' t y n q) ∧ fr S S' (LnS t) := by
  obtain ⟨h1, h2, h3, h4, h5, h6, h7⟩ := id h
  dsimp only at h1 h2 h3 h4 h5 h6 h7
  have hP := h4 6 (by omega)
  obtain ⟨k3, k4, k5, k6, k7, k8⟩ := id h6
  have e0 : fX8_readLine_4 1 t (nI 4) (hp S J T) = fX8_readLine_37 1 t (nI 4) (bI (decide (4 ≤ c 6))) (hp S J T) := by
    unfold fX8_readLine_4
    rw [if_neg (show ¬ nI 4 < 0 by decide)]
    unfold fX8_readLine_15
    rw [if_neg (show ¬ nI 4 = 0 by decide)]
    unfold fX8_readLine_32 fX8_readLine_34 gX8_isFull fX8_isFull_0 fX8_isFull_1
    rw [kI_1, kI_2, kI_3, kI_4, if_neg (show ¬ nI 4 = nI 1 by decide), if_neg (show ¬ nI 4 = nI 2 by decide), if_neg (show ¬ nI 4 = nI 3 by decide), if_pos rfl]
    unfold fX8_isFull_80
    rw [tl_g6 htl, Option.bind_some, hP, kI_4]
    by_cases zf : c 6 < 4
    · rw [if_pos (ltn zf (by omega)), decide_eq_false (show ¬ 4 ≤ c 6 by omega)]
      unfold fX8_isFull_92 fX8_isFull_93
      rw [kI_0, if_pos o_0, Option.bind_some, bI_f]
    · rw [if_neg (nltn zf (by omega) (by omega)), decide_eq_true (show 4 ≤ c 6 by omega)]
      unfold fX8_isFull_88 fX8_isFull_93
      rw [kI_1, if_pos o_1, Option.bind_some, bI_t]
  rw [e0]
  unfold fX8_readLine_37
  by_cases zf : c 6 < 4
  · rw [decide_eq_false (show ¬ 4 ≤ c 6 by omega), if_pos (show bI false = 0 by decide)]
    unfold fX8_readLine_46
    rw [if_neg (show ¬ nI 4 = 0 by decide)]
    unfold fX8_readLine_50
    rw [rd_g14, Option.bind_some, h5]
    by_cases z8 : c 8 = 0
    · rw [z8, if_pos (show nI 0 = 0 from rfl)]
      have eB : pUns y n (R, W, c, s) = .inl (6, s) := by
        unfold pUns
        rw [show pBeg (R, W, c, s) 4 6 = .inl (6, s) by show (if c 6 < 4 then (if c 8 = 0 then _ else _) else _) = _; rw [if_pos zf, if_pos z8], bdP_l]
      obtain ⟨S4, g1, g2, g3, g4⟩ := c_failC (J := J) (T := T) h1 6
      refine ⟨S4, nI 0, ?_, by rw [eB]; exact ⟨rfl, g2, g3⟩, frR_L g4⟩
      unfold fX8_readLine_57 fX8_readLine_60
      rw [rd_isO, Option.bind_some, kB_6, g1, Option.bind_some]
      unfold fX8_readLine_63
      rw [if_pos o_0]
    · have z81 : c 8 = 1 := by omega
      rw [z81, if_neg (show ¬ nI 1 = 0 by decide)]
      obtain ⟨S2, a1, a2, a3⟩ := s_stepR (J := J) (T := T) h1
      obtain ⟨S3, b, r1, r2, r3⟩ := c_rUns (J := J) (T := T) htl ht0 (clS_fr h a3 a2 (by omega)) zf
      refine ⟨S3, b, ?_, ?_, fr_tr (frR_L a3) r3.1⟩
      · unfold fX8_readLine_64 fX8_readLine_65
        rw [rd_isO, Option.bind_some, a1, Option.bind_some]
        unfold fX8_readLine_68 fX8_readLine_69
        rw [kI_0, kI_1, kI_2, kI_3, kI_4, if_neg (show ¬ nI 4 = nI 0 by decide), if_neg (show ¬ nI 4 = nI 1 by decide), if_neg (show ¬ nI 4 = nI 2 by decide), if_neg (show ¬ nI 4 = nI 3 by decide), if_pos rfl]
        unfold fX8_readLine_128 fX8_readLine_130
        rw [rd_isO, Option.bind_some, r1, Option.bind_some]
        unfold fX8_readLine_133
        rw [if_pos (outC_b r2)]
      · unfold pUns
        rw [show pBeg (R, W, c, s) 4 6 = .inr 0 by show (if c 6 < 4 then (if c 8 = 0 then _ else _) else _) = _; rw [if_pos zf, if_neg z8], bdP_r]
        exact r2
  · rw [decide_eq_true (show 4 ≤ c 6 by omega), if_neg (show ¬ bI true = 0 by decide)]
    have eB : pUns y n (R, W, c, s) = .inl (5, s) := by
      unfold pUns
      rw [show pBeg (R, W, c, s) 4 6 = .inl (5, s) by show (if c 6 < 4 then (if c 8 = 0 then _ else _) else _) = _; rw [if_neg zf], bdP_l]
    obtain ⟨S4, g1, g2, g3, g4⟩ := c_failC (J := J) (T := T) h1 5
    refine ⟨S4, nI 0, ?_, by rw [eB]; exact ⟨rfl, g2, g3⟩, frR_L g4⟩
    unfold fX8_readLine_40 fX8_readLine_42
    rw [rd_isO, Option.bind_some, kI_5, g1, Option.bind_some]
    unfold fX8_readLine_45
    rw [if_pos o_0]
set_option maxRecDepth 100000 in
set_option maxHeartbeats 400000 in
theorem c_ln5 (htl : tlA t) (ht0 : 56 ≤ t) {R : Row} {W : WL} {c : Nat → Nat} (h : clS S t y n (R, W, c, s)) : ∃ S' b, fX8_readLine_4 1 t (nI 5) (hp S J T) = some (b, hp S' J T) ∧ outC S' b (pHrd y n (R, W, c, s)) (fun q => clS S' t y n q) ∧ fr S S' (LnS t) := by
  obtain ⟨h1, h2, h3, h4, h5, h6, h7⟩ := id h
  dsimp only at h1 h2 h3 h4 h5 h6 h7
  have hP := h4 7 (by omega)
  obtain ⟨k3, k4, k5, k6, k7, k8⟩ := id h6
  have e0 : fX8_readLine_4 1 t (nI 5) (hp S J T) = fX8_readLine_37 1 t (nI 5) (bI (decide (6 ≤ c 7))) (hp S J T) := by
    unfold fX8_readLine_4
    rw [if_neg (show ¬ nI 5 < 0 by decide)]
    unfold fX8_readLine_15
    rw [if_neg (show ¬ nI 5 = 0 by decide)]
    unfold fX8_readLine_32 fX8_readLine_34 gX8_isFull fX8_isFull_0 fX8_isFull_1
    rw [kI_1, kI_2, kI_3, kI_4, kI_5, if_neg (show ¬ nI 5 = nI 1 by decide), if_neg (show ¬ nI 5 = nI 2 by decide), if_neg (show ¬ nI 5 = nI 3 by decide), if_neg (show ¬ nI 5 = nI 4 by decide), if_pos rfl]
    unfold fX8_isFull_94
    rw [tl_g7 htl, Option.bind_some, hP, kB_6]
    by_cases zf : c 7 < 6
    · rw [if_pos (ltn zf (by omega)), decide_eq_false (show ¬ 6 ≤ c 7 by omega)]
      unfold fX8_isFull_107 fX8_isFull_108
      rw [kI_0, if_pos o_0, Option.bind_some, bI_f]
    · rw [if_neg (nltn zf (by omega) (by omega)), decide_eq_true (show 6 ≤ c 7 by omega)]
      unfold fX8_isFull_103 fX8_isFull_108
      rw [kI_1, if_pos o_1, Option.bind_some, bI_t]
  rw [e0]
  unfold fX8_readLine_37
  by_cases zf : c 7 < 6
  · rw [decide_eq_false (show ¬ 6 ≤ c 7 by omega), if_pos (show bI false = 0 by decide)]
    unfold fX8_readLine_46
    rw [if_neg (show ¬ nI 5 = 0 by decide)]
    unfold fX8_readLine_50
    rw [rd_g14, Option.bind_some, h5]
    by_cases z8 : c 8 = 0
    · rw [z8, if_pos (show nI 0 = 0 from rfl)]
      have eB : pHrd y n (R, W, c, s) = .inl (6, s) := by
        unfold pHrd
        rw [show pBeg (R, W, c, s) 6 7 = .inl (6, s) by show (if c 7 < 6 then (if c 8 = 0 then _ else _) else _) = _; rw [if_pos zf, if_pos z8], bdP_l]
      obtain ⟨S4, g1, g2, g3, g4⟩ := c_failC (J := J) (T := T) h1 6
      refine ⟨S4, nI 0, ?_, by rw [eB]; exact ⟨rfl, g2, g3⟩, frR_L g4⟩
      unfold fX8_readLine_57 fX8_readLine_60
      rw [rd_isO, Option.bind_some, kB_6, g1, Option.bind_some]
      unfold fX8_readLine_63
      rw [if_pos o_0]
    · have z81 : c 8 = 1 := by omega
      rw [z81, if_neg (show ¬ nI 1 = 0 by decide)]
      obtain ⟨S2, a1, a2, a3⟩ := s_stepR (J := J) (T := T) h1
      obtain ⟨S3, b, r1, r2, r3⟩ := c_rHrd (J := J) (T := T) htl ht0 (clS_fr h a3 a2 (by omega)) zf
      refine ⟨S3, b, ?_, ?_, fr_tr (frR_L a3) r3.1⟩
      · unfold fX8_readLine_64 fX8_readLine_65
        rw [rd_isO, Option.bind_some, a1, Option.bind_some]
        unfold fX8_readLine_68 fX8_readLine_69
        rw [kI_0, kI_1, kI_2, kI_3, kI_4, if_neg (show ¬ nI 5 = nI 0 by decide), if_neg (show ¬ nI 5 = nI 1 by decide), if_neg (show ¬ nI 5 = nI 2 by decide), if_neg (show ¬ nI 5 = nI 3 by decide), if_neg (show ¬ nI 5 = nI 4 by decide)]
        unfold fX8_readLine_134 fX8_readLine_136
        rw [rd_isO, Option.bind_some, r1, Option.bind_some]
        unfold fX8_readLine_139
        rw [if_pos (outC_b r2)]
      · unfold pHrd
        rw [show pBeg (R, W, c, s) 6 7 = .inr 0 by show (if c 7 < 6 then (if c 8 = 0 then _ else _) else _) = _; rw [if_pos zf, if_neg z8], bdP_r]
        exact r2
  · rw [decide_eq_true (show 6 ≤ c 7 by omega), if_neg (show ¬ bI true = 0 by decide)]
    have eB : pHrd y n (R, W, c, s) = .inl (5, s) := by
      unfold pHrd
      rw [show pBeg (R, W, c, s) 6 7 = .inl (5, s) by show (if c 7 < 6 then (if c 8 = 0 then _ else _) else _) = _; rw [if_neg zf], bdP_l]
    obtain ⟨S4, g1, g2, g3, g4⟩ := c_failC (J := J) (T := T) h1 5
    refine ⟨S4, nI 0, ?_, by rw [eB]; exact ⟨rfl, g2, g3⟩, frR_L g4⟩
    unfold fX8_readLine_40 fX8_readLine_42
    rw [rd_isO, Option.bind_some, kI_5, g1, Option.bind_some]
    unfold fX8_readLine_45
    rw [if_pos o_0]
set_option maxRecDepth 100000 in
set_option maxHeartbeats 400000 in
theorem c_ln0 (htl : tlA t) (ht0 : 56 ≤ t) {R : Row} {W : WL} {c : Nat → Nat} (h : clS S t y n (R, W, c, s)) : ∃ S' b, fX8_readLine_4 1 t (nI 0) (hp S J T) = some (b, hp S' J T) ∧ outC S' b (pTab y n (R, W, c, s)) (fun q => clS S' t y n q) ∧ fr S S' (LnS t) := by
  obtain ⟨h1, h2, h3, h4, h5, h6, h7⟩ := id h
  dsimp only at h1 h2 h3 h4 h5 h6 h7
  obtain ⟨k3, k4, k5, k6, k7, k8⟩ := id h6
  unfold fX8_readLine_4
  rw [if_neg (show ¬ nI 0 < 0 by decide)]
  unfold fX8_readLine_15
  rw [if_pos (show nI 0 = 0 from rfl)]
  unfold fX8_readLine_19
  rw [rd_g14, Option.bind_some, h5]
  by_cases z8 : c 8 = 0
  · rw [z8, if_pos (show nI 0 = 0 from rfl)]
    unfold fX8_readLine_32 fX8_readLine_34 gX8_isFull fX8_isFull_0 fX8_isFull_1
    rw [kI_1, kI_2, kI_3, kI_4, kI_5, if_neg (show ¬ nI 0 = nI 1 by decide), if_neg (show ¬ nI 0 = nI 2 by decide), if_neg (show ¬ nI 0 = nI 3 by decide), if_neg (show ¬ nI 0 = nI 4 by decide), if_neg (show ¬ nI 0 = nI 5 by decide)]
    unfold fX8_isFull_109
    rw [kI_0, if_pos o_0, Option.bind_some]
    unfold fX8_readLine_37
    rw [if_pos (show nI 0 = 0 from rfl)]
    unfold fX8_readLine_46
    rw [if_pos (show nI 0 = 0 from rfl)]
    obtain ⟨S2, a1, a2, a3⟩ := s_stepR (J := J) (T := T) h1
    obtain ⟨S3, b, r1, r2, r3⟩ := c_rTab (J := J) (T := T) htl ht0 (clS_fr h a3 a2 (by omega))
    refine ⟨S3, b, ?_, ?_, fr_tr (frR_L a3) r3⟩
    · unfold fX8_readLine_64 fX8_readLine_65
      rw [rd_isO, Option.bind_some, a1, Option.bind_some]
      unfold fX8_readLine_68 fX8_readLine_69
      rw [kI_0, if_pos rfl]
      unfold fX8_readLine_104 fX8_readLine_106
      rw [rd_isO, Option.bind_some, r1, Option.bind_some]
      unfold fX8_readLine_109
      rw [if_pos (outC_b r2)]
    · unfold pTab
      rw [if_pos (show c 8 = 0 from z8)]
      exact r2
  · have z81 : c 8 = 1 := by omega
    rw [z81, if_neg (show ¬ nI 1 = 0 by decide)]
    have eB : pTab y n (R, W, c, s) = .inl (3, s) := by
      unfold pTab
      rw [if_neg (show ¬ c 8 = 0 from z8)]
    obtain ⟨S4, g1, g2, g3, g4⟩ := c_failC (J := J) (T := T) h1 3
    refine ⟨S4, nI 0, ?_, by rw [eB]; exact ⟨rfl, g2, g3⟩, frR_L g4⟩
    unfold fX8_readLine_26 fX8_readLine_28
    rw [rd_isO, Option.bind_some, kI_3, g1, Option.bind_some]
    unfold fX8_readLine_31
    rw [if_pos o_0]
set_option maxRecDepth 100000 in
set_option maxHeartbeats 400000 in
theorem c_rLin (htl : tlA t) (ht0 : 56 ≤ t) {R : Row} {W : WL} {c : Nat → Nat} (h : clS S t y n (R, W, c, s)) (hv : ∀ k, k < c 5 → ∃ v, v < 5 ∧ R (35 + 2 * k) = nI v) : ∃ S' b, gX8_readLine 1 t (hp S J T) = some (b, hp S' J T) ∧ outC S' b (pLin y n (R, W, c, s)) (fun q => clS S' t y n q) ∧ fr S S' (LnS t) := by
  have h1 := h.1
  dsimp only at h1
  unfold gX8_readLine fX8_readLine_0 fX8_readLine_1
  rw [rd_isO, Option.bind_some, c_lsort h1, Option.bind_some]
  have hL := fun i => lsN_lt (y := y) (n := n) (s := s) (i := i)
  unfold pLin
  dsimp only
  cases zl : lsN y n s with
  | none =>
    unfold fX8_readLine_4
    rw [if_pos (show om none < 0 by decide)]
    obtain ⟨S4, g1, g2, g3, g4⟩ := c_failC (J := J) (T := T) h1 1
    refine ⟨S4, nI 0, ?_, ⟨rfl, g2, g3⟩, frR_L g4⟩
    unfold fX8_readLine_9 fX8_readLine_11
    rw [rd_isO, Option.bind_some, kI_1, g1, Option.bind_some]
    unfold fX8_readLine_14
    rw [if_pos o_0]
  | some i =>
    have hi := hL i zl
    show ∃ S' b, fX8_readLine_4 1 t (nI i) (hp S J T) = some (b, hp S' J T) ∧ _ ∧ _
    rcases (show i = 0 ∨ i = 1 ∨ i = 2 ∨ i = 3 ∨ i = 4 ∨ i = 5 by omega) with z | z | z | z | z | z
    · subst z; exact c_ln0 htl ht0 h
    · subst z; exact c_ln1 htl ht0 h
    · subst z; exact c_ln2 htl ht0 h
    · subst z; exact c_ln3 htl ht0 h hv
    · subst z; exact c_ln4 htl ht0 h
    · subst z; exact c_ln5 htl ht0 h
end LN4

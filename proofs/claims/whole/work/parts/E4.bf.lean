-- THE BEST FAST, asked
set_option maxRecDepth 100000 in
set_option maxHeartbeats 400000 in
theorem sm5_0 : ∀ k, k < 32 → sm5 (nI k) 0 = nI k := by decide
set_option maxRecDepth 100000 in
set_option maxHeartbeats 400000 in
theorem mf_lF {r R : Row} {F k : Nat} (hk : k < 32) : mfB r R F (nI k) 1 = lF (fre r R F) k := by
  show (true && okD r R F 0 (sm5 (nI k) 0)) = _
  rw [Bool.true_and, sm5_0 k hk]
  have h := okD_fre ((nI 1 <<< (r 3 &&& 31)) - nI 1) (R 10) (fs r (R 13 + nI 1) F 0 (R 11)) (nI k)
  have et : tol r R F 0 = fs r (R 13 + nI 1) F 0 (R 11) := by unfold tol; rw [if_pos rfl, add0]
  unfold okD lF fre lvm
  rw [et]
  by_cases z : nI k &&& ((((nI 1 <<< (r 3 &&& 31)) - nI 1) &&& (R 10 ^^^ m1)) &&& (fs r (R 13 + nI 1) F 0 (R 11) ^^^ m1) ^^^ m1) = 0
  · have z2 := h.mp z
    rw [decide_eq_true z, decide_eq_true z2.1, decide_eq_true z2.2]
    rfl
  · rw [decide_eq_false z]
    by_cases z3 : nI k &&& (fs r (R 13 + nI 1) F 0 (R 11) ||| R 10) = 0
    · rw [decide_eq_false (fun z4 => z (h.mpr ⟨z3, z4⟩)), Bool.and_false]
    · rw [decide_eq_false z3, Bool.false_and]
section BF4
variable {S : Mem} {J : MeJ} {T : Nat → Nat} {t P N F U E : Nat}
set_option maxRecDepth 100000 in
set_option maxHeartbeats 400000 in
theorem l_bf {r R : Row} (hT : TbS r P N) (hF : r 5 = nI F) (hF8 : F ≤ 8) (hI : Inv R P N 999) : ∀ m k g S1 b, k + m = 2 ^ P → m < g → S1 170 = r → S1 174 = R → (∀ j, b = some j → j < k) → S1 167 34 = wBs (wvl r R P N F) b → ∃ S', lX11_bestFastOf_10 g 167 (oi b) (nI k) (hp S1 J T) = some (oi (am (btr (wvl r R P N F)) (fun k => mfB r R F (nI k) 1) m k b), hp S' J T) ∧ S' 167 34 = wBs (wvl r R P N F) (am (btr (wvl r R P N F)) (fun k => mfB r R F (nI k) 1) m k b) ∧ fr S1 S' [167, 175, 178, 179] ∧ ∀ j, j ≠ 25 → j ≠ 26 → j ≠ 34 → S' 167 j = S1 167 j := by
  have hP5 : P ≤ 5 := hT.2.1
  have hN8 : N ≤ 8 := hT.2.2.2.1
  obtain ⟨p1, p2⟩ := ev_n P hP5
  have hpp : 0 < 2 ^ P := Nat.pow_pos (by omega)
  intro m
  induction m with
  | zero =>
    intro k g S1 b hk hg h1 h2 hb h3
    obtain ⟨g, rfl⟩ : ∃ x, g = x + 1 := ⟨g - 1, by omega⟩
    obtain rfl : k = 2 ^ P := by omega
    refine ⟨S1, ?_, h3, fr_rf _ _, fun _ _ _ _ => rfl⟩
    have e3 : S1 170 3 = nI P := by rw [h1]; exact hT.1
    unfold lX11_bestFastOf_10
    simp (disch := omega) only [fX11_bestFastOf_10, fX11_bestFastOf_12, fX11_bestFastOf_15, fX11_bestFastOf_125, mo_isO, c_everybody, e3, p1, lt_eq, show 2 ^ P - 1 < 2 ^ P by omega, Option.bind_some, ↓reduceIte]
    rfl
  | succ m ih =>
    intro k g S1 b hk hg h1 h2 hb h3
    obtain ⟨g, rfl⟩ : ∃ x, g = x + 1 := ⟨g - 1, by omega⟩
    have e3 : S1 170 3 = nI P := by rw [h1]; exact hT.1
    have hmf := c_mayF (S := S1) (J := J) (T := T) (F := F) (s := nI k) (n := 1) h1 h2 hF hF8 (by omega)
    have hto : lX11_bestFastOf_10 (g + 1) 167 (oi b) (nI k) (hp S1 J T) = fX11_bestFastOf_24 (lX11_bestFastOf_10 g) 167 (oi b) (nI k) (bI (mfB r R F (nI k) 1)) (hp S1 J T) := by
      conv => lhs; unfold lX11_bestFastOf_10
      unfold fX11_bestFastOf_10 fX11_bestFastOf_12
      rw [mo_isO, Option.bind_some, c_everybody, Option.bind_some, e3, p1]
      unfold fX11_bestFastOf_15
      rw [if_neg (show ¬ nI (2 ^ P - 1) < nI k by rw [lt_eq (by omega) (by omega)]; omega)]
      unfold fX11_bestFastOf_18 fX11_bestFastOf_21
      rw [mo_isO, Option.bind_some, kI_1, hmf, Option.bind_some]
    rw [hto]
    cases hl : mfB r R F (nI k) 1 with
    | false =>
      obtain ⟨S3, a1, a2, a3, a4⟩ := ih (k + 1) g S1 b (by omega) (by omega) h1 h2 (fun j hj => by have := hb j hj; omega) h3
      have e : ams (btr (wvl r R P N F)) (fun k => mfB r R F (nI k) 1) k b = b := ams_f hl
      refine ⟨S3, ?_, ?_, a3, a4⟩
      · show _ = some (oi (am _ _ m (k + 1) (ams _ _ k b)), _)
        rw [e, ← a1]
        unfold fX11_bestFastOf_24
        rw [if_pos (show bI false = 0 by decide)]
        unfold fX11_bestFastOf_27 fX11_bestFastOf_119
        rw [kI_1, nI_add]
      · show _ = wBs _ (am _ _ m (k + 1) (ams _ _ k b))
        rw [e]
        exact a2
    | true =>
      have e : ams (btr (wvl r R P N F)) (fun k => mfB r R F (nI k) 1) k b = ams1 (btr (wvl r R P N F)) k b := if_pos hl
      have hbg := c_begin (S := S1) (J := J) (T := T)
      rw [h2] at hbg
      have hR : agR (cpR R (S1 175) 22) R P N := agR_cp hP5 hN8 (agR_rf _ _ _)
      generalize hSb : stR S1 175 (cpR R (S1 175) 22) = Sb at hbg
      have b175 : Sb 175 = cpR R (S1 175) 22 := by rw [← hSb, stR_eq]
      have be : ∀ c, c ≠ 175 → Sb c = S1 c := fun c z => by rw [← hSb, stR_ne z]
      obtain ⟨S2, k1, k2, k3, k4, k5⟩ := m_day (S := Sb) (J := J) (T := T) (w := 175) (P := P) (N := N) (F := F) (D := 999) (bes := nI k) (fl := false) rwA_175 (by omega) (by omega) (by omega) (by omega) (by rw [be 170 (by omega), h1]; exact hT) (by rw [be 170 (by omega), h1]; exact hF) hF8 (by rw [b175]; exact Inv_ag hR hI) (by omega)
      rw [bI_f] at k1
      rw [be 170 (by omega), h1, b175] at k2
      have hA : agR (S2 175) (rw1 r R P N F k) P N := by
        rw [k2]
        exact (ag_day (agT_rf r P N F) hR hP5 _ _ _).1
      have i2 : Inv (rw1 r R P N F k) P N 1000 := day_inv hT hI (by omega) hT.2.2.2.2.1
      have r2 : S2 170 = r := by rw [k5 170 (by decide), be 170 (by omega)]; exact h1
      obtain ⟨S3, l1, l2, l3, l4, l5⟩ := m_day (S := S2) (J := J) (T := T) (w := 175) (P := P) (N := N) (F := F) (D := 1000) (bes := nI 0) (fl := false) rwA_175 (by omega) (by omega) (by omega) (by omega) (by rw [r2]; exact hT) (by rw [r2]; exact hF) hF8 (Inv_ag hA i2) (by omega)
      rw [bI_f] at l1
      rw [r2] at l2 l3
      have e26 : S3 167 26 = oi (dWt r (rw1 r R P N F k) P N false) := by rw [l3, up_eq, ag_dWt (agT_rf r P N F) hA]
      have e167 : ∀ j, j ≠ 25 → j ≠ 26 → S3 167 j = S1 167 j := fun j z1 z2 => by rw [l3, up_ne z2, up_ne z1, k3, up_ne z2, up_ne z1, be 167 (by omega)]
      have ewo : ∀ j, j < N → S3 175 (14 + j) = rw1 r R P N F k (14 + j) := fun j hj => by
        rw [l2]
        have := wo_day (r := r) (R := S2 175) (P := P) (N := N) (F := F) (bes := nI 0) (bowl := r 0) (fl := false) hP5 (some j)
        exact Eq.trans this (hA.2.2 j hj)
      have f3 : fr S1 S3 [167, 175, 178, 179] := fr_tr (fr_tr (by rw [← hSb]; exact fr_st (fr_rf S1 _) (by decide)) (fr_mo k5 (by decide))) (fr_mo l5 (by decide))
      have h34 : S3 167 34 = wBs (wvl r R P N F) b := by rw [e167 34 (by omega) (by omega)]; exact h3
      have h77 := s_bf77 (S := S3) (J := J) (T := T) (w := wvl r R P N F) (wvl_sm hT hI (by omega)) (k := k) (by omega) hb h34 (lX11_bestFastOf_10 g)
      obtain ⟨S4, a1, a2, a3, a4⟩ := ih (k + 1) g (stR S3 167 (up (S3 167) 34 (wBs (wvl r R P N F) (ams1 (btr (wvl r R P N F)) k b)))) (ams1 (btr (wvl r R P N F)) k b) (by omega) (by omega) (by rw [stR_ne (by omega), f3 170 (by decide)]; exact h1) (by rw [stR_ne (by omega), f3 174 (by decide)]; exact h2) (fun j hj => by
        have := ams_lt (l := fun _ => true) hb j (by unfold ams; rw [if_pos rfl]; exact hj)
        exact this) (by rw [stR_eq, up_eq])
      refine ⟨S4, ?_, ?_, fr_tr f3 (fr_tr (fr_st (fr_rf S3 _) (by decide)) a3), fun j z1 z2 z3 => by rw [a4 j z1 z2 z3, stR_eq, up_ne z3]; exact e167 j z1 z2⟩
      · show _ = some (oi (am _ _ m (k + 1) (ams _ _ k b)), _)
        rw [e, ← a1, ← h77]
        unfold fX11_bestFastOf_24
        rw [if_neg (show ¬ bI true = 0 by decide)]
        unfold fX11_bestFastOf_30 fX11_bestFastOf_31
        rw [mo_isO, Option.bind_some, hbg, Option.bind_some]
        unfold fX11_bestFastOf_34
        rw [mo_f20, Option.bind_some]
        unfold fX11_bestFastOf_41
        rw [mo_isO, Option.bind_some, kI_0, k1, Option.bind_some]
        unfold fX11_bestFastOf_44
        rw [mo_f20, Option.bind_some]
        unfold fX11_bestFastOf_51
        rw [mo_isO, Option.bind_some, kI_0, l1, Option.bind_some]
        unfold fX11_bestFastOf_54
        rw [mo_g26, Option.bind_some, e26]
        have hwd : wvl r R P N F k = wo (rw1 r R P N F k) (dWt r (rw1 r R P N F k) P N false) := rfl
        cases hx : dWt r (rw1 r R P N F k) P N false with
        | none =>
          rw [hx] at hwd
          rw [if_pos (show oi none < 0 by decide)]
          unfold fX11_bestFastOf_61
          rw [kI_0, hwd]
          rfl
        | some j =>
          have hj := dWt_lt j hx
          rw [hx] at hwd e26
          rw [oi_some] at e26
          rw [oi_some, if_neg (show ¬ nI j < 0 by rw [nI_lt0 (by omega)]; exact fun z => z)]
          unfold fX11_bestFastOf_65
          rw [mo_f20, Option.bind_some, mo_g26, Option.bind_some, e26, kB_14, nI_add, rw_r rwA_175 (by omega), Option.bind_some, ewo j hj, hwd]
          rfl
      · show _ = wBs _ (am _ _ m (k + 1) (ams _ _ k b))
        rw [e]
        exact a2
set_option maxRecDepth 100000 in
set_option maxHeartbeats 400000 in
theorem q_bestFast (h : Rl S T) : bth (fun h => gX10_bestFast 0 h) (fun h => gX11_bestFast 167 h) S J T := by
  obtain ⟨ht, P, N, F, U, E, hB⟩ := Rl_bas h
  obtain ⟨b1, b2, b3, b4, b5, b6, b7, b8, b9, b10⟩ := id hB
  have hanew : ∀ S1 : Mem, gX11_anew 167 (hp S1 J T) = some (hp (stR S1 167 (nw S1)) J T) := fun S1 => c_anew
  cases ht with
  | false =>
    refine bth_q h (v := m1) (tr := nI 1) (cq_no ?_) (fun S1 hf => mq_no (X := up (nw S1) 11 (nI 1)) ?_ up_eq (nw_p S1 _)) n1_4
    · simp (disch := omega) only [gX10_bestFast, fX10_bestFast_0, fX10_bestFast_1, fX10_bestFast_4, fX10_bestFast_7, fX10_bestFast_9, fX10_bestFast_12, fX10_bestFast_13, fX10_bestFast_25, fX10_bestFast_28, fX10_bestFast_36, fX10_bestFast_39, lt_isO, kI_1, lt_f2, lt_f9, lt_f8, se_isO, se_g1, Option.bind_some, n35, n9, n19, n51, n59, nI_add, ix2, ix8, ix22, ix5, ↓reduceIte, lt_isO, c_lacksTable b1 b3 b5, b8, Bool.not_false, bI_t, n1_0, c_refuse]
    · have h14 : nw S1 14 = nI 0 := by rw [nw14, hf 167 (by decide)]; exact b7
      simp (disch := omega) only [gX11_bestFast, fX11_bestFast_0, fX11_bestFast_1, fX11_bestFast_4, fX11_bestFast_11, fX11_bestFast_12, fX11_bestFast_15, fX11_bestFast_18, fX11_bestFast_20, fX11_bestFast_23, mo_isO, mo_g14, kI_1, Option.bind_some, n35, n9, n19, n51, n59, nI_add, ix2, ix8, ix22, ix5, ↓reduceIte, hanew, stR_eq, h14, n0_0, c_no, stR_stR]
  | true =>
    have hlk := c_lack1 (J := J) hB
    have hy := b9 rfl
    obtain ⟨S', f, hf, ef, k1, k2, k3⟩ := c_sWorth (S := S) (J := J) (T := T) b1 b2 hy (S0 := S) rfl rfl
    have hp32 := (ev_n P b5).2
    obtain ⟨i, hi⟩ : ∃ i, am (btr (wvl (S 170) (S 174) P N F)) (lF (nI f)) (f + 1) 0 none = some i := by
      have := am_so (lt := btr (wvl (S 170) (S 174) P N F)) (l := lF (nI f)) f 1 0
      obtain ⟨i, hi⟩ := this
      refine ⟨i, ?_⟩
      show am _ _ f 1 (ams _ _ 0 none) = some i
      rw [ams_n (lF_0 (nI f))]
      exact hi
    rw [hi] at k2
    obtain ⟨x0, x1, x2⟩ := k2
    have hi5 : i < 5000 := by
      have := am_lt (n := f + 1) (k := 0) (b := none) (fun j h => by cases h) i hi
      omega
    have f0 : S' 0 = S 0 := k3 0 (by decide)
    refine bth_q h (v := nI i) (tr := nI 0) ⟨stR S' 0 (up (S' 0) 11 (nI 0)), ?_, fr_st (fr_mo k3 (by decide)) (by decide), by rw [stR_eq, up_eq], by rw [stR_eq, up_ne (by omega), f0]⟩ (fun S1 hf1 => ?_) n0_4
    · simp (disch := omega) only [gX10_bestFast, fX10_bestFast_0, fX10_bestFast_1, fX10_bestFast_4, fX10_bestFast_7, fX10_bestFast_9, fX10_bestFast_12, fX10_bestFast_13, fX10_bestFast_25, fX10_bestFast_28, fX10_bestFast_36, fX10_bestFast_39, lt_isO, kI_1, lt_f2, lt_f9, lt_f8, se_isO, se_g1, Option.bind_some, n35, n9, n19, n51, n59, nI_add, ix2, ix8, ix22, ix5, ↓reduceIte, lt_isO, se_isO, lt_f2, lt_f8, lt_f9, hlk, n0_0, k1, se_g1, x1, c_answer]
    · have h14 : nw S1 14 = nI 1 := by rw [nw14, hf1 167 (by decide)]; exact b7
      obtain ⟨S2, a1, a2, a3, a4⟩ := l_bf (J := J) (T := T) (r := S 170) (R := S 174) hy.1.1 hy.1.2.2.1 hy.1.2.2.2.1 hy.2.2.2.2.2.1 (2 ^ P) 0 FU (stR (stR S1 167 (nw S1)) 167 (up (nw S1) 34 m1)) none (by omega) (FU_lt (by omega)) (by rw [stR_ne (by omega), stR_ne (by omega)]; exact hf1 170 (by decide)) (by rw [stR_ne (by omega), stR_ne (by omega)]; exact hf1 174 (by decide)) (fun j hj => by cases hj) (by rw [stR_eq, up_eq]; rfl)
      have hsame : am (btr (wvl (S 170) (S 174) P N F)) (fun k => mfB (S 170) (S 174) F (nI k) 1) (2 ^ P) 0 none = some i := by
        rw [← hi]
        have z := am_x (lt := btr (wvl (S 170) (S 174) P N F)) (l := lF (nI f)) (2 ^ P - (f + 1)) (f + 1) 0 none (fun j h1 h2 => by
          cases e : lF (nI f) j with
          | false => rfl
          | true => have := lF_le j (by omega) f (by omega) (of_decide_eq_true e); omega)
        rw [show f + 1 + (2 ^ P - (f + 1)) = 2 ^ P by omega] at z
        rw [← z]
        exact am_cg (fun j hj => by cases hj) (fun j h1 h2 => by rw [mf_lF (by omega), ef]) (fun _ _ _ _ _ => rfl)
      rw [hsame] at a1 a2
      rw [stR_stR] at a1 a3 a4
      have hw : gX11_bestFastOf 167 (hp (stR S1 167 (nw S1)) J T) = some (nI i, hp S2 J T) := by
        refine Eq.trans ?_ a1
        unfold gX11_bestFastOf fX11_bestFastOf_0
        rw [mo_p34, Option.bind_some, stS_R, stR_stR, stR_eq, kI_n, kB_o, kI_0]
      have hne : ∀ j, j ∈ pM → j ≠ 25 ∧ j ≠ 26 ∧ j ≠ 34 := by decide
      refine ⟨S2, ?_, fr_tr (fr_st (fr_rf S1 _) (by decide)) (fr_mo a3 (by decide)), by rw [a4 11 (by omega) (by omega) (by omega), stR_eq, up_ne (by omega)]; exact up_eq, fun j hj => ?_⟩
      · have hbw : S2 167 34 = wvl (S 170) (S 174) P N F i := a2
        simp (disch := omega) only [gX11_bestFast, fX11_bestFast_0, fX11_bestFast_1, fX11_bestFast_4, fX11_bestFast_11, fX11_bestFast_12, fX11_bestFast_15, fX11_bestFast_18, fX11_bestFast_20, fX11_bestFast_23, mo_isO, mo_g14, kI_1, Option.bind_some, n35, n9, n19, n51, n59, nI_add, ix2, ix8, ix22, ix5, ↓reduceIte, hanew, stR_eq, h14, n1_0, hw, hbw]
      · obtain ⟨y1, y2, y3⟩ := hne j hj
        rw [a4 j y1 y2 y3, stR_eq, up_ne y3]
        exact nw_q S1 j hj
set_option maxRecDepth 100000 in
set_option maxHeartbeats 400000 in
theorem q_bestWorth (h : Rl S T) : bth (fun h => gX10_bestWorth 0 h) (fun h => gX11_bestWorth 167 h) S J T := by
  obtain ⟨ht, P, N, F, U, E, hB⟩ := Rl_bas h
  obtain ⟨b1, b2, b3, b4, b5, b6, b7, b8, b9, b10⟩ := id hB
  have hanew : ∀ S1 : Mem, gX11_anew 167 (hp S1 J T) = some (hp (stR S1 167 (nw S1)) J T) := fun S1 => c_anew
  cases ht with
  | false =>
    refine bth_q h (v := m1) (tr := nI 1) (cq_no ?_) (fun S1 hf => mq_no (X := up (nw S1) 11 (nI 1)) ?_ up_eq (nw_p S1 _)) n1_4
    · simp (disch := omega) only [gX10_bestWorth, fX10_bestWorth_0, fX10_bestWorth_1, fX10_bestWorth_4, fX10_bestWorth_7, fX10_bestWorth_9, fX10_bestWorth_12, fX10_bestWorth_13, fX10_bestWorth_25, fX10_bestWorth_28, fX10_bestWorth_36, fX10_bestWorth_39, lt_isO, kI_1, lt_f2, lt_f9, lt_f8, se_isO, se_g2, Option.bind_some, n35, n9, n19, n51, n59, nI_add, ix2, ix8, ix22, ix5, ↓reduceIte, lt_isO, c_lacksTable b1 b3 b5, b8, Bool.not_false, bI_t, n1_0, c_refuse]
    · have h14 : nw S1 14 = nI 0 := by rw [nw14, hf 167 (by decide)]; exact b7
      simp (disch := omega) only [gX11_bestWorth, fX11_bestWorth_0, fX11_bestWorth_1, fX11_bestWorth_4, fX11_bestWorth_11, fX11_bestWorth_13, fX11_bestWorth_16, fX11_bestWorth_17, fX11_bestWorth_18, fX11_bestWorth_21, mo_isO, mo_g14, kI_1, mo_g34, Option.bind_some, n35, n9, n19, n51, n59, nI_add, ix2, ix8, ix22, ix5, ↓reduceIte, hanew, stR_eq, h14, n0_0, c_no, stR_stR]
  | true =>
    have hlk := c_lack1 (J := J) hB
    have hy := b9 rfl
    obtain ⟨S', f, hf, ef, k1, k2, k3⟩ := c_sWorth (S := S) (J := J) (T := T) b1 b2 hy (S0 := S) rfl rfl
    have hp32 := (ev_n P b5).2
    obtain ⟨i, hi⟩ : ∃ i, am (btr (wvl (S 170) (S 174) P N F)) (lF (nI f)) (f + 1) 0 none = some i := by
      have := am_so (lt := btr (wvl (S 170) (S 174) P N F)) (l := lF (nI f)) f 1 0
      obtain ⟨i, hi⟩ := this
      refine ⟨i, ?_⟩
      show am _ _ f 1 (ams _ _ 0 none) = some i
      rw [ams_n (lF_0 (nI f))]
      exact hi
    rw [hi] at k2
    obtain ⟨x0, x1, x2⟩ := k2
    have hi5 : i < 5000 := by
      have := am_lt (n := f + 1) (k := 0) (b := none) (fun j h => by cases h) i hi
      omega
    have f0 : S' 0 = S 0 := k3 0 (by decide)
    refine bth_q h (v := wvl (S 170) (S 174) P N F i) (tr := nI 0) ⟨stR S' 0 (up (S' 0) 11 (nI 0)), ?_, fr_st (fr_mo k3 (by decide)) (by decide), by rw [stR_eq, up_eq], by rw [stR_eq, up_ne (by omega), f0]⟩ (fun S1 hf1 => ?_) n0_4
    · simp (disch := omega) only [gX10_bestWorth, fX10_bestWorth_0, fX10_bestWorth_1, fX10_bestWorth_4, fX10_bestWorth_7, fX10_bestWorth_9, fX10_bestWorth_12, fX10_bestWorth_13, fX10_bestWorth_25, fX10_bestWorth_28, fX10_bestWorth_36, fX10_bestWorth_39, lt_isO, kI_1, lt_f2, lt_f9, lt_f8, se_isO, se_g2, Option.bind_some, n35, n9, n19, n51, n59, nI_add, ix2, ix8, ix22, ix5, ↓reduceIte, lt_isO, se_isO, lt_f2, lt_f8, lt_f9, hlk, n0_0, k1, se_g2, x2, c_answer]
    · have h14 : nw S1 14 = nI 1 := by rw [nw14, hf1 167 (by decide)]; exact b7
      obtain ⟨S2, a1, a2, a3, a4⟩ := l_bf (J := J) (T := T) (r := S 170) (R := S 174) hy.1.1 hy.1.2.2.1 hy.1.2.2.2.1 hy.2.2.2.2.2.1 (2 ^ P) 0 FU (stR (stR S1 167 (nw S1)) 167 (up (nw S1) 34 m1)) none (by omega) (FU_lt (by omega)) (by rw [stR_ne (by omega), stR_ne (by omega)]; exact hf1 170 (by decide)) (by rw [stR_ne (by omega), stR_ne (by omega)]; exact hf1 174 (by decide)) (fun j hj => by cases hj) (by rw [stR_eq, up_eq]; rfl)
      have hsame : am (btr (wvl (S 170) (S 174) P N F)) (fun k => mfB (S 170) (S 174) F (nI k) 1) (2 ^ P) 0 none = some i := by
        rw [← hi]
        have z := am_x (lt := btr (wvl (S 170) (S 174) P N F)) (l := lF (nI f)) (2 ^ P - (f + 1)) (f + 1) 0 none (fun j h1 h2 => by
          cases e : lF (nI f) j with
          | false => rfl
          | true => have := lF_le j (by omega) f (by omega) (of_decide_eq_true e); omega)
        rw [show f + 1 + (2 ^ P - (f + 1)) = 2 ^ P by omega] at z
        rw [← z]
        exact am_cg (fun j hj => by cases hj) (fun j h1 h2 => by rw [mf_lF (by omega), ef]) (fun _ _ _ _ _ => rfl)
      rw [hsame] at a1 a2
      rw [stR_stR] at a1 a3 a4
      have hw : gX11_bestFastOf 167 (hp (stR S1 167 (nw S1)) J T) = some (nI i, hp S2 J T) := by
        refine Eq.trans ?_ a1
        unfold gX11_bestFastOf fX11_bestFastOf_0
        rw [mo_p34, Option.bind_some, stS_R, stR_stR, stR_eq, kI_n, kB_o, kI_0]
      have hne : ∀ j, j ∈ pM → j ≠ 25 ∧ j ≠ 26 ∧ j ≠ 34 := by decide
      refine ⟨S2, ?_, fr_tr (fr_st (fr_rf S1 _) (by decide)) (fr_mo a3 (by decide)), by rw [a4 11 (by omega) (by omega) (by omega), stR_eq, up_ne (by omega)]; exact up_eq, fun j hj => ?_⟩
      · have hbw : S2 167 34 = wvl (S 170) (S 174) P N F i := a2
        simp (disch := omega) only [gX11_bestWorth, fX11_bestWorth_0, fX11_bestWorth_1, fX11_bestWorth_4, fX11_bestWorth_11, fX11_bestWorth_13, fX11_bestWorth_16, fX11_bestWorth_17, fX11_bestWorth_18, fX11_bestWorth_21, mo_isO, mo_g14, kI_1, mo_g34, Option.bind_some, n35, n9, n19, n51, n59, nI_add, ix2, ix8, ix22, ix5, ↓reduceIte, hanew, stR_eq, h14, n1_0, hw, hbw]
      · obtain ⟨y1, y2, y3⟩ := hne j hj
        rw [a4 j y1 y2 y3, stR_eq, up_ne y3]
        exact nw_q S1 j hj
end BF4

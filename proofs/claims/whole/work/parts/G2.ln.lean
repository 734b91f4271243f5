-- LINES: looks over the rows, the class; a name's line
set_option maxRecDepth 100000 in
set_option maxHeartbeats 400000 in
theorem anyR_mo {R : Row} {a : Nat} {x : Int32} {k : Nat} (h : anyR R a x k = true) : ∀ m, anyR R a x (k + m) = true := by
  intro m
  induction m with
  | zero => exact h
  | succ m ih => show (anyR R a x (k + m) || decide (R (a + 2 * (k + m)) = x)) = true; rw [ih, Bool.true_or]
set_option maxRecDepth 100000 in
set_option maxHeartbeats 400000 in
theorem anyR_cg {R R' : Row} {a : Nat} {x : Int32} : ∀ k, (∀ i, i < k → R (a + 2 * i) = R' (a + 2 * i)) → anyR R a x k = anyR R' a x k := by
  intro k
  induction k with
  | zero => intro _; rfl
  | succ k ih =>
    intro h
    show (anyR R a x k || decide (R (a + 2 * k) = x)) = (anyR R' a x k || decide (R' (a + 2 * k) = x))
    rw [ih (fun i hi => h i (by omega)), h k (by omega)]
set_option maxRecDepth 100000 in
set_option maxHeartbeats 400000 in
theorem anyR2_cg {R R' : Row} {a : Nat} {x z : Int32} : ∀ k, (∀ i, i < k → R (a + 2 * i) = R' (a + 2 * i) ∧ R (a + 1 + 2 * i) = R' (a + 1 + 2 * i)) → anyR2 R a x z k = anyR2 R' a x z k := by
  intro k
  induction k with
  | zero => intro _; rfl
  | succ k ih =>
    intro h
    show (anyR2 R a x z k || (decide (R (a + 2 * k) = x) && decide (R (a + 1 + 2 * k) = z))) = (anyR2 R' a x z k || (decide (R' (a + 2 * k) = x) && decide (R' (a + 1 + 2 * k) = z)))
    rw [ih (fun i hi => h i (by omega)), (h k (by omega)).1, (h k (by omega)).2]
set_option maxRecDepth 100000 in
set_option maxHeartbeats 400000 in
theorem bt_fs {r : Row} {day : Int32} {p : Nat} (hp5 : p < 5) : ∀ m k x, (∀ i, i < k + m → ∃ v, v < 5 ∧ r (35 + 2 * i) = nI v) → bt x p = anyR2 r 35 (nI p) day k → bt (fs r day m k x) p = anyR2 r 35 (nI p) day (k + m) := by
  intro m
  induction m with
  | zero => intro k x _ h; exact h
  | succ m ih =>
    intro k x hv h
    have e := ih (k + 1) (if r (36 + 2 * k) = day then x ||| (nI 1 <<< (r (35 + 2 * k) &&& 31)) else x) (fun i hi => hv i (by omega)) ?_
    · rw [show k + (m + 1) = k + 1 + m by omega]
      exact e
    · obtain ⟨v, v1, v2⟩ := hv k (by omega)
      show _ = (anyR2 r 35 (nI p) day k || (decide (r (35 + 2 * k) = nI p) && decide (r (36 + 2 * k) = day)))
      by_cases zd : r (36 + 2 * k) = day
      · rw [if_pos zd, b_or, h, v2, b_sh v (by omega) (by omega), decide_eq_true zd, Bool.and_true]
        congr 1
        exact decide_eq_decide.mpr ⟨fun z => by rw [z], fun z => by rw [eq_eq (by omega) (by omega)] at z; exact z.symm⟩
      · rw [if_neg zd, h, decide_eq_false zd, Bool.and_false, Bool.or_false]
section LN2
variable {S : Mem} {J : MeJ} {T : Nat → Nat} {y : Nat → Nat} {n t s : Nat}
set_option maxRecDepth 100000 in
set_option maxHeartbeats 400000 in
theorem c_hasF (ht : tlA t) {F : Nat} (hF : S t 4 = nI F) (hF8 : F ≤ 8) {x : Int32} : gX9_hasFrom t x (hp S J T) = some (bI (anyR (S t) 19 x F), hp S J T) := by
  have hloop : ∀ m k g, k + m = F → m < g → anyR (S t) 19 x k = false → lX9_hasFrom_2 g t x (nI k) (hp S J T) = some (bI (anyR (S t) 19 x F), hp S J T) := by
    intro m
    induction m with
    | zero =>
      intro k g hk hg he
      obtain ⟨g, rfl⟩ : ∃ z, g = z + 1 := ⟨g - 1, by omega⟩
      obtain rfl : k = F := by omega
      rw [he]
      unfold lX9_hasFrom_2 fX9_hasFrom_2
      rw [tl_g4 ht, Option.bind_some, hF, if_neg (nltn (Nat.lt_irrefl _) (by omega) (by omega))]
      unfold fX9_hasFrom_28
      rw [kI_0, if_pos o_0, bI_f]
    | succ m ih =>
      intro k g hk hg he
      obtain ⟨g, rfl⟩ : ∃ z, g = z + 1 := ⟨g - 1, by omega⟩
      have eS : anyR (S t) 19 x (k + 1) = decide (S t (19 + 2 * k) = x) := by
        show (anyR (S t) 19 x k || decide (S t (19 + 2 * k) = x)) = _
        rw [he, Bool.false_or]
      conv => lhs; unfold lX9_hasFrom_2
      unfold fX9_hasFrom_2
      rw [tl_g4 ht, Option.bind_some, hF, if_pos (ltn (show k < F by omega) (by omega))]
      unfold fX9_hasFrom_10
      rw [tl_f11 ht, Option.bind_some, tl_r11 ht (by omega), Option.bind_some]
      by_cases zc : S t (19 + 2 * k) = x
      · rw [if_pos zc]
        have e := anyR_mo (R := S t) (a := 19) (x := x) (k := k + 1) (by rw [eS]; exact decide_eq_true zc) m
        rw [show F = k + 1 + m by omega, e]
        unfold fX9_hasFrom_20
        rw [kI_1, if_pos o_1, bI_t]
      · rw [if_neg zc]
        unfold fX9_hasFrom_22
        rw [kI_1, nI_add]
        exact ih (k + 1) g (by omega) (by omega) (by rw [eS]; exact decide_eq_false zc)
  unfold gX9_hasFrom fX9_hasFrom_0
  rw [kI_0]
  exact hloop F 0 FU (by omega) (FU_lt (by omega)) rfl
set_option maxRecDepth 100000 in
set_option maxHeartbeats 400000 in
theorem c_isUn (ht : tlA t) {F : Nat} (hF : S t 6 = nI F) (hF8 : F ≤ 4) {x : Int32} : gX9_isUnsure t x (hp S J T) = some (bI (anyR (S t) 51 x F), hp S J T) := by
  have hloop : ∀ m k g, k + m = F → m < g → anyR (S t) 51 x k = false → lX9_isUnsure_2 g t x (nI k) (hp S J T) = some (bI (anyR (S t) 51 x F), hp S J T) := by
    intro m
    induction m with
    | zero =>
      intro k g hk hg he
      obtain ⟨g, rfl⟩ : ∃ z, g = z + 1 := ⟨g - 1, by omega⟩
      obtain rfl : k = F := by omega
      rw [he]
      unfold lX9_isUnsure_2 fX9_isUnsure_2
      rw [tl_g6 ht, Option.bind_some, hF, if_neg (nltn (Nat.lt_irrefl _) (by omega) (by omega))]
      unfold fX9_isUnsure_28
      rw [kI_0, if_pos o_0, bI_f]
    | succ m ih =>
      intro k g hk hg he
      obtain ⟨g, rfl⟩ : ∃ z, g = z + 1 := ⟨g - 1, by omega⟩
      have eS : anyR (S t) 51 x (k + 1) = decide (S t (51 + 2 * k) = x) := by
        show (anyR (S t) 51 x k || decide (S t (51 + 2 * k) = x)) = _
        rw [he, Bool.false_or]
      conv => lhs; unfold lX9_isUnsure_2
      unfold fX9_isUnsure_2
      rw [tl_g6 ht, Option.bind_some, hF, if_pos (ltn (show k < F by omega) (by omega))]
      unfold fX9_isUnsure_10
      rw [tl_f15 ht, Option.bind_some, tl_r15 ht (by omega), Option.bind_some]
      by_cases zc : S t (51 + 2 * k) = x
      · rw [if_pos zc]
        have e := anyR_mo (R := S t) (a := 51) (x := x) (k := k + 1) (by rw [eS]; exact decide_eq_true zc) m
        rw [show F = k + 1 + m by omega, e]
        unfold fX9_isUnsure_20
        rw [kI_1, if_pos o_1, bI_t]
      · rw [if_neg zc]
        unfold fX9_isUnsure_22
        rw [kI_1, nI_add]
        exact ih (k + 1) g (by omega) (by omega) (by rw [eS]; exact decide_eq_false zc)
  unfold gX9_isUnsure fX9_isUnsure_0
  rw [kI_0]
  exact hloop F 0 FU (by omega) (FU_lt (by omega)) rfl
set_option maxRecDepth 100000 in
set_option maxHeartbeats 400000 in
theorem c_isHd (ht : tlA t) {F : Nat} (hF : S t 7 = nI F) (hF8 : F ≤ 6) {x : Int32} : gX9_isHeardOn t x (hp S J T) = some (bI (anyR (S t) 60 x F), hp S J T) := by
  have hloop : ∀ m k g, k + m = F → m < g → anyR (S t) 60 x k = false → lX9_isHeardOn_2 g t x (nI k) (hp S J T) = some (bI (anyR (S t) 60 x F), hp S J T) := by
    intro m
    induction m with
    | zero =>
      intro k g hk hg he
      obtain ⟨g, rfl⟩ : ∃ z, g = z + 1 := ⟨g - 1, by omega⟩
      obtain rfl : k = F := by omega
      rw [he]
      unfold lX9_isHeardOn_2 fX9_isHeardOn_2
      rw [tl_g7 ht, Option.bind_some, hF, if_neg (nltn (Nat.lt_irrefl _) (by omega) (by omega))]
      unfold fX9_isHeardOn_28
      rw [kI_0, if_pos o_0, bI_f]
    | succ m ih =>
      intro k g hk hg he
      obtain ⟨g, rfl⟩ : ∃ z, g = z + 1 := ⟨g - 1, by omega⟩
      have eS : anyR (S t) 60 x (k + 1) = decide (S t (60 + 2 * k) = x) := by
        show (anyR (S t) 60 x k || decide (S t (60 + 2 * k) = x)) = _
        rw [he, Bool.false_or]
      conv => lhs; unfold lX9_isHeardOn_2
      unfold fX9_isHeardOn_2
      rw [tl_g7 ht, Option.bind_some, hF, if_pos (ltn (show k < F by omega) (by omega))]
      unfold fX9_isHeardOn_10
      rw [tl_f18 ht, Option.bind_some, tl_r18 ht (by omega), Option.bind_some]
      by_cases zc : S t (60 + 2 * k) = x
      · rw [if_pos zc]
        have e := anyR_mo (R := S t) (a := 60) (x := x) (k := k + 1) (by rw [eS]; exact decide_eq_true zc) m
        rw [show F = k + 1 + m by omega, e]
        unfold fX9_isHeardOn_20
        rw [kI_1, if_pos o_1, bI_t]
      · rw [if_neg zc]
        unfold fX9_isHeardOn_22
        rw [kI_1, nI_add]
        exact ih (k + 1) g (by omega) (by omega) (by rw [eS]; exact decide_eq_false zc)
  unfold gX9_isHeardOn fX9_isHeardOn_0
  rw [kI_0]
  exact hloop F 0 FU (by omega) (FU_lt (by omega)) rfl
set_option maxRecDepth 100000 in
set_option maxHeartbeats 400000 in
theorem c_rNam (htl : tlA t) (ht0 : 56 ≤ t) {R : Row} {W : WL} {c : Nat → Nat} (h : clS S t y n (R, W, c, s)) (hc : c 4 < 8) : ∃ S' b, gX8_readName 1 t (hp S J T) = some (b, hp S' J T) ∧ outC S' b (bdP (pNew y n W s) fun l => bdP (pA y n 14 0 200 (nx y n s)) fun f => if anyR R 19 (nI f.1) (c 4) then .inl (3, f.2) else bdP (pA y n 15 0 20 (nx y n f.2)) fun w => .inr ((up (up R (19 + 2 * c 4) (nI f.1)) (114 + c 4) (nI w.1), W ++ [(s, l, 5 + c 4)], upN c 4 (c 4 + 1), nx y n w.2) : PSt)) (fun q => clS S' t y n q) ∧ frT t S S' := by
  obtain ⟨h1, h2, h3, h4, h5, h6, h7⟩ := h
  dsimp only at h1 h2 h3 h4 h5 h6 h7
  have hP := h4 4 (by omega)
  obtain ⟨k3, k4, k5, k6, k7, k8⟩ := id h6
  obtain ⟨S1, b1, u1, u2, u3⟩ := c_newN (J := J) (T := T) h1 h2 (by omega) (ofP := false) (num := c 4) (code := 5 + c 4) (by rw [if_neg (by decide)]) (by rw [if_neg (by decide)]; exact hc)
  rw [bI_f] at u1
  have e1 : gX8_readName 1 t (hp S J T) = fX8_readName_11 1 t (nI (c 4)) b1 (hp S1 J T) := by
    unfold gX8_readName fX8_readName_0 fX8_readName_8
    rw [tl_g4 htl, Option.bind_some, hP, rd_isO, Option.bind_some, kI_0, u1, Option.bind_some]
  rw [e1]
  cases hp1 : pNew y n W s with
  | inl e =>
    rw [hp1] at u2
    refine ⟨S1, nI 0, ?_, ⟨rfl, u2.2.1, u2.2.2⟩, frT_W u3⟩
    unfold fX8_readName_11
    rw [u2.1, if_pos (show nI 0 = 0 from rfl)]
    unfold fX8_readName_27
    rw [kI_0, if_pos o_0]
  | inr l =>
    rw [hp1] at u2
    obtain ⟨p1, p2, p3⟩ := u2
    obtain ⟨S2, b2, v1, v2, v3⟩ := c_fW (J := J) (T := T) p2 (i := 14) (lo := 0) (hi := 200) (by omega) (by omega) (by omega)
    rw [show stN 14 = 14 from rfl] at v2
    have e2 : fX8_readName_11 1 t (nI (c 4)) b1 (hp S1 J T) = fX8_readName_24 1 t (nI (c 4)) b2 (hp S2 J T) := by
      unfold fX8_readName_11
      rw [p1, if_neg (show ¬ nI 1 = 0 by decide)]
      unfold fX8_readName_14 fX8_readName_15 fX8_readName_17 fX8_readName_21
      rw [rd_isO, Option.bind_some, kI_0, kS_200, v1, Option.bind_some]
    rw [e2]
    have f2 : frT t S S2 := frT_tr (frT_W u3) (frT_R v3)
    have et2 : S2 t = S t := by rw [v3.1 t (by omega), frW_t u3 ht0]
    show ∃ S' b, _ ∧ outC S' b (bdP (pA y n 14 0 200 (nx y n s)) fun f => if anyR R 19 (nI f.1) (c 4) then .inl (3, f.2) else bdP (pA y n 15 0 20 (nx y n f.2)) fun w => .inr ((up (up R (19 + 2 * c 4) (nI f.1)) (114 + c 4) (nI w.1), W ++ [(s, l, 5 + c 4)], upN c 4 (c 4 + 1), nx y n w.2) : PSt)) _ ∧ _
    cases hp2 : pA y n 14 0 200 (nx y n s) with
    | inl e =>
      rw [hp2] at v2
      refine ⟨S2, nI 0, ?_, ⟨rfl, v2.2.1, v2.2.2⟩, f2⟩
      unfold fX8_readName_24
      rw [v2.1, if_pos (show nI 0 = 0 from rfl)]
      unfold fX8_readName_27
      rw [kI_0, if_pos o_0]
    | inr f =>
      rw [hp2] at v2
      obtain ⟨y1, y2, y3, y4⟩ := v2
      have ea : anyR (S2 t) 19 (nI f.1) (c 4) = anyR R 19 (nI f.1) (c 4) := anyR_cg _ (fun i hi => by rw [et2]; exact h7 _ (by unfold inD; omega))
      have e3 : fX8_readName_24 1 t (nI (c 4)) b2 (hp S2 J T) = fX8_readName_37 1 t (nI (c 4)) (bI (anyR R 19 (nI f.1) (c 4))) (hp S2 J T) := by
        unfold fX8_readName_24
        rw [y1, if_neg (show ¬ nI 1 = 0 by decide)]
        unfold fX8_readName_29 fX8_readName_34
        rw [rd_g13, Option.bind_some, y3, tl_isO htl, Option.bind_some, c_hasF htl (F := c 4) (by rw [et2]; exact hP) (by omega), Option.bind_some, ea]
      rw [e3]
      show ∃ S' b, _ ∧ outC S' b (if anyR R 19 (nI f.1) (c 4) then .inl (3, f.2) else bdP (pA y n 15 0 20 (nx y n f.2)) fun w => .inr ((up (up R (19 + 2 * c 4) (nI f.1)) (114 + c 4) (nI w.1), W ++ [(s, l, 5 + c 4)], upN c 4 (c 4 + 1), nx y n w.2) : PSt)) _ ∧ _
      cases za : anyR R 19 (nI f.1) (c 4) with
      | true =>
        rw [if_pos rfl]
        obtain ⟨S4, g1, g2, g3, g4⟩ := c_failC (J := J) (T := T) y2 3
        refine ⟨S4, nI 0, ?_, ⟨rfl, g2, g3⟩, frT_tr f2 (frT_R g4)⟩
        unfold fX8_readName_37
        rw [if_neg (show ¬ bI true = 0 by decide)]
        unfold fX8_readName_40 fX8_readName_42
        rw [rd_isO, Option.bind_some, kI_3, g1, Option.bind_some]
        unfold fX8_readName_45
        rw [if_pos o_0]
      | false =>
        rw [if_neg (by decide)]
        have q4 := tC_t (t := t) (X := up (S2 t) (19 + 2 * c 4) (nI f.1)) y2 (by omega) (by omega)
        have q5 := wrC_t (X := up (S2 t) (19 + 2 * c 4) (nI f.1)) (wrC_fr p3 v3) ht0
        obtain ⟨S4, c1, c2, c3⟩ := s_stepR (J := J) (T := T) q4
        have q6 := wrC_fr q5 c3
        have e5 : fX8_readName_37 1 t (nI (c 4)) (bI false) (hp S2 J T) = fX8_readName_60 1 t (nI (c 4)) (hp S4 J T) := by
          unfold fX8_readName_37
          rw [if_pos (show bI false = 0 by decide)]
          unfold fX8_readName_46
          rw [tl_f11 htl, Option.bind_some, rd_g13, Option.bind_some, y3, tl_w11 htl hc, Option.bind_some, stS_R]
          unfold fX8_readName_57
          rw [rd_isO, Option.bind_some, c1, Option.bind_some]
        obtain ⟨S5, b5, z1, z2, z3⟩ := c_fW (J := J) (T := T) c2 (i := 15) (lo := 0) (hi := 20) (by omega) (by omega) (by omega)
        rw [show stN 15 = 15 from rfl] at z2
        have e6 : fX8_readName_60 1 t (nI (c 4)) (hp S4 J T) = fX8_readName_69 1 t (nI (c 4)) b5 (hp S5 J T) := by
          unfold fX8_readName_60 fX8_readName_61 fX8_readName_63 fX8_readName_66
          rw [rd_isO, Option.bind_some, kI_0, kB_20, z1, Option.bind_some]
        rw [e5, e6]
        have f5 : frT t S S5 := frT_tr f2 (frT_tr (frT_t (by omega)) (frT_tr (frT_R c3) (frT_R z3)))
        cases hp4 : pA y n 15 0 20 (nx y n f.2) with
        | inl e =>
          rw [hp4] at z2
          refine ⟨S5, nI 0, ?_, ⟨rfl, z2.2.1, z2.2.2⟩, f5⟩
          unfold fX8_readName_69
          rw [z2.1, if_pos (show nI 0 = 0 from rfl)]
          unfold fX8_readName_72
          rw [kI_0, if_pos o_0]
        | inr w =>
          rw [hp4] at z2
          obtain ⟨r1, r2, r3, r4⟩ := z2
          have et5 : S5 t = up (S t) (19 + 2 * c 4) (nI f.1) := by
            rw [z3.1 t (by omega), c3.1 t (by omega), stR_eq, et2]
          have q7 := tC_t (t := t) (X := up (up (S5 t) (114 + c 4) (nI w.1)) 4 (nI (c 4 + 1))) r2 (by omega) (by omega)
          have q8 := wrC_t (X := up (up (S5 t) (114 + c 4) (nI w.1)) 4 (nI (c 4 + 1))) (wrC_fr q6 z3) ht0
          obtain ⟨S6, d1, d2, d3⟩ := s_stepR (J := J) (T := T) q7
          have f6 : frT t S S6 := frT_tr f5 (frT_tr (frT_t (by omega)) (frT_R d3))
          have et : S6 t = up (up (up (S t) (19 + 2 * c 4) (nI f.1)) (114 + c 4) (nI w.1)) 4 (nI (c 4 + 1)) := by
            rw [d3.1 t (by omega), stR_eq, et5]
          refine ⟨S6, nI 1, ?_, ⟨rfl, d2, wrC_fr q8 d3, ?_, fun j hj => ?_, ?_, ?_, fun j hj => ?_⟩, f6⟩
          · unfold fX8_readName_69
            rw [r1, if_neg (show ¬ nI 1 = 0 by decide)]
            unfold fX8_readName_74
            rw [tl_f12 htl, Option.bind_some, rd_g13, Option.bind_some, r3, tl_w12 htl hc, Option.bind_some, stS_R, tl_g4 htl, Option.bind_some, stR_eq, up_ne (by omega), et5, up_ne (by omega), hP, kI_1, nI_add, tl_p4 htl, Option.bind_some, stS_R, stR_stR, stR_eq, ← et5]
            unfold fX8_readName_95
            rw [rd_isO, Option.bind_some, d1, Option.bind_some]
            unfold fX8_readName_98
            rw [kI_1, if_pos o_1]
          · show (W ++ [(s, l, 5 + c 4)]).length = upN c 4 (c 4 + 1) 3 + upN c 4 (c 4 + 1) 4
            rw [List.length_append, upN_eq, upN_ne (by omega), h3]
            show _ + 1 = _
            omega
          · show _ = nI (upN c 4 (c 4 + 1) j)
            rw [et]
            by_cases j3 : j = 4
            · rw [j3, up_eq, upN_eq]
            · rw [up_ne j3, upN_ne j3, up_ne (by omega), up_ne (by omega)]
              exact h4 j hj
          · show S6 1 14 = nI (upN c 4 (c 4 + 1) 8)
            rw [upN_ne (by omega), f6.2 14 (by omega) (by omega) (by omega) (by omega) (by omega) (by omega) (by omega)]
            exact h5
          · exact ⟨k3, by show upN c 4 (c 4 + 1) 4 ≤ 8; rw [upN_eq]; omega, k5, k6, k7, k8⟩
          · show _ = up (up R (19 + 2 * c 4) (nI f.1)) (114 + c 4) (nI w.1) j
            have hj' : inD (upN c 4 (c 4 + 1)) j := hj
            unfold inD at hj'
            rw [upN_eq, upN_ne (show 3 ≠ 4 by omega), upN_ne (show 5 ≠ 4 by omega), upN_ne (show 6 ≠ 4 by omega), upN_ne (show 7 ≠ 4 by omega)] at hj'
            rw [et, up_ne (by omega)]
            by_cases j2 : j = 114 + c 4
            · rw [j2, up_eq, up_eq]
            · rw [up_ne j2, up_ne j2]
              by_cases j4 : j = 19 + 2 * c 4
              · rw [j4, up_eq, up_eq]
              · rw [up_ne j4, up_ne j4]
                exact h7 j (by unfold inD; omega)
end LN2

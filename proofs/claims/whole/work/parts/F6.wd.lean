-- THE TEXT: words, the reference; at a token
def nx (y : Nat → Nat) (n s : Nat) : Nat := tkS y n (tkE y n s)
def tC (S : Mem) (y : Nat → Nat) (n s : Nat) : Prop := tpC S y n ∧ s ≤ n ∧ S 1 9 = nI n ∧ S 1 10 = nI s ∧ S 1 11 = nI (tkE y n s) ∧ S 1 12 = nI (tkK y n s) ∧ (tkK y n s = 3 → S 1 13 = nI (tkV y n s)) ∧ S 1 1 = nI 0
def tM (S : Mem) (y : Nat → Nat) (n s : Nat) : Prop := tpM S y n ∧ s ≤ n ∧ S 167 3 = nI n ∧ S 167 13 = nI 0 ∧ S 167 4 = nI s ∧ (tkK y n s ≠ 1 → S 167 5 = nI (tkE y n s)) ∧ S 167 6 = nI (mkT (tkK y n s)) ∧ (tkK y n s = 3 → S 167 7 = nI (tkV y n s)) ∧ (tkK y n s = 2 → S 167 8 = nI (tkE y n s - s) ∧ ∀ i, i < tkE y n s - s → S 169 i = nI (y (s + i)))
set_option maxRecDepth 100000 in
set_option maxHeartbeats 400000 in
theorem tkK_le (y : Nat → Nat) (n s : Nat) : tkK y n s ≤ 4 := by
  unfold tkK
  split
  · split
    · omega
    · split
      · split <;> omega
      · split
        · split <;> omega
        · omega
  · omega
section WM
variable {S : Mem} {J : MeJ} {T : Nat → Nat} {y : Nat → Nat} {n s : Nat}
set_option maxRecDepth 100000 in
set_option maxHeartbeats 400000 in
theorem nx_b (hs : s ≤ n) : s ≤ nx y n s ∧ nx y n s ≤ n := by
  have h1 := tkE_b (y := y) hs
  have h2 := tkS_b (y := y) h1.2
  unfold nx
  omega
set_option maxRecDepth 100000 in
set_option maxHeartbeats 400000 in
theorem s_step (h : tC S y n s) : ∃ X : Row, gX8_step 1 (hp S J T) = some (hp (stR S 1 X) J T) ∧ tC (stR S 1 X) y n (nx y n s) ∧ ∀ j, j ≠ 10 → j ≠ 11 → j ≠ 12 → j ≠ 13 → X j = S 1 j := by
  obtain ⟨h1, h2, h3, h4, h5, h6, h7⟩ := h
  obtain ⟨X, a1, a2, a3, a4, a5, a6⟩ := c_step (S := S) (J := J) (T := T) h1 (tkE_b (y := y) h2).2 h3 h5
  refine ⟨X, a1, ⟨⟨h1.1, fun k hk => by rw [stR_ne (by omega)]; exact h1.2 k hk⟩, (nx_b h2).2, ?_, ?_, ?_, ?_, ?_⟩, a6⟩
  · rw [stR_eq, a6 9 (by omega) (by omega) (by omega) (by omega)]; exact h3
  · rw [stR_eq]; exact a2
  · rw [stR_eq]; exact a3
  · rw [stR_eq]; exact a4
  · rw [stR_eq]; exact ⟨a5, by rw [a6 1 (by omega) (by omega) (by omega) (by omega)]; exact h7.2⟩
set_option maxRecDepth 100000 in
set_option maxHeartbeats 400000 in
theorem s_next (h : tM S y n s) (hk : tkK y n s ≠ 1) : ∃ X L : Row, gX11_next 167 (hp S J T) = some (hp (stR (stR S 167 X) 169 L) J T) ∧ tM (stR (stR S 167 X) 169 L) y n (nx y n s) ∧ ∀ j, j ≠ 4 → j ≠ 5 → j ≠ 6 → j ≠ 7 → j ≠ 8 → X j = S 167 j := by
  obtain ⟨h1, h2, h3, h4, h5, h6, h7, h8, h9⟩ := h
  obtain ⟨X, L, a1, a2, a3, a4, a5, a6, a7⟩ := c_next (S := S) (J := J) (T := T) h1 (tkE_b (y := y) h2).2 h3 (h6 hk)
  have e167 : stR (stR S 167 X) 169 L 167 = X := by rw [stR_ne (by omega), stR_eq]
  have e169 : stR (stR S 167 X) 169 L 169 = L := by rw [stR_eq]
  refine ⟨X, L, a1, ⟨⟨h1.1, fun k hk => by rw [stR_ne (by omega), stR_ne (by omega)]; exact h1.2 k hk⟩, (nx_b h2).2, ?_, ?_, ?_, ?_, ?_, ?_, ?_⟩, a7⟩
  · rw [e167, a7 3 (by omega) (by omega) (by omega) (by omega) (by omega)]; exact h3
  · rw [e167, a7 13 (by omega) (by omega) (by omega) (by omega) (by omega)]; exact h4
  · rw [e167]; exact a2
  · rw [e167]; exact a3
  · rw [e167]; exact a4
  · rw [e167]; exact a5
  · rw [e167, e169]; exact a6
set_option maxRecDepth 100000 in
set_option maxHeartbeats 400000 in
theorem c_isW (h : tC S y n s) {i : Nat} (hi : i < 34) : gX8_isWord 1 (SB + i) (hp S J T) = some (bI (wdB y n s (stN i)), hp S J T) := c_isWC h.1 h.2.1 h.2.2.2.1 h.2.2.2.2.1 h.2.2.2.2.2.1 hi
set_option maxRecDepth 100000 in
set_option maxHeartbeats 400000 in
theorem c_isWM (h : tM S y n s) {i : Nat} (hi : i < 34) : gX11_isWord 167 (SB + i) (hp S J T) = some (bI (wdB y n s (stN i)), hp S J T) := by
  obtain ⟨h1, h2, h3, h4, h5, h6, h7, h8, h9⟩ := h
  have hn7 := h1.1
  obtain ⟨l10, l1, -⟩ := st_ok i hi
  have hE := tkE_b (y := y) h2
  have hK := tkK_le y n s
  have hno : fX11_isWord_26 (hp S J T) = some (bI false, hp S J T) := by simp only [fX11_isWord_26, kI_0, n0_0, true_or, if_true, z0_z, ↓reduceIte, bI_f]
  have hmk : mkT (tkK y n s) < 5000 ∧ (mkT (tkK y n s) = 2 ↔ tkK y n s = 2) := by
    unfold mkT
    split <;> omega
  unfold gX11_isWord fX11_isWord_0 wdB
  rw [mo_g13, Option.bind_some, h4, if_pos (show nI 0 = 0 from rfl)]
  unfold fX11_isWord_7
  rw [mo_g6, Option.bind_some, h7, kI_2]
  by_cases z2 : tkK y n s = 2
  · have e2 : mkT (tkK y n s) = 2 := hmk.2.mpr z2
    obtain ⟨h91, h92⟩ := h9 z2
    obtain ⟨t1, t2, t3, t4, t5⟩ := tk2 z2
    rw [e2, if_pos rfl, decide_eq_true z2, Bool.true_and]
    unfold fX11_isWord_15
    rw [mo_g8, Option.bind_some, h91]
    unfold fX11_isWord_20
    rw [c_len hi, Option.bind_some]
    unfold fX11_isWord_23
    by_cases zl : tkE y n s - s = stL i
    · rw [if_pos (show nI (tkE y n s - s) = nI (stL i) by rw [zl]), decide_eq_true (show tkE y n s - s = sLen.getD (stN i) 0 from zl), Bool.true_and]
      have hloop : ∀ m k g, k + m = stL i → m < g → lX11_isWord_32 g 167 (SB + i) (bI (wdA y s (stN i) k)) (nI k) (hp S J T) = some (bI (wdA y s (stN i) (stL i)), hp S J T) := by
        intro m
        induction m with
        | zero =>
          intro k g hk hg
          obtain ⟨g, rfl⟩ : ∃ x, g = x + 1 := ⟨g - 1, by omega⟩
          obtain rfl : k = stL i := by omega
          unfold lX11_isWord_32 fX11_isWord_32
          rw [mo_g8, Option.bind_some, h91, zl, if_neg (nltn (Nat.lt_irrefl _) (by omega) (by omega))]
          unfold fX11_isWord_70
          rw [if_pos (by rw [bI_z]; trivial)]
        | succ m ih =>
          intro k g hk hg
          obtain ⟨g, rfl⟩ : ∃ x, g = x + 1 := ⟨g - 1, by omega⟩
          have hkL : k < stL i := by omega
          have eS : wdA y s (stN i) (k + 1) = (wdA y s (stN i) k && decide (nI (y (s + k)) = stC i k)) := rfl
          rw [← ih (k + 1) g (by omega) (by omega), eS]
          have h62 : fX11_isWord_62 (lX11_isWord_32 g) 167 (SB + i) (nI k) (hp S J T) = lX11_isWord_32 g 167 (SB + i) (bI false) (nI (k + 1)) (hp S J T) := by
            unfold fX11_isWord_62 fX11_isWord_63
            rw [kI_0, kI_1, nI_add, bI_f]
          conv => lhs; unfold lX11_isWord_32
          unfold fX11_isWord_32
          rw [mo_g8, Option.bind_some, h91, zl, if_pos (ltn hkL (by omega))]
          unfold fX11_isWord_40
          cases hw : wdA y s (stN i) k with
          | false =>
            rw [if_pos (show bI false = 0 by decide), Bool.false_and]
            exact h62
          | true =>
            rw [if_neg (show ¬ bI true = 0 by decide), Bool.true_and]
            unfold fX11_isWord_44
            rw [mo_f12, Option.bind_some, mo_r12 (by omega), Option.bind_some, h92 k (by omega)]
            unfold fX11_isWord_52
            rw [c_chr hi hkL, Option.bind_some]
            unfold fX11_isWord_55
            by_cases zc : nI (y (s + k)) = stC i k
            · rw [if_pos zc, decide_eq_true zc]
              unfold fX11_isWord_58 fX11_isWord_63
              rw [kI_1, nI_add, bI_t]
            · rw [if_neg zc, decide_eq_false zc]
              exact h62
      unfold fX11_isWord_28
      rw [kI_0, kI_1]
      exact hloop (stL i) 0 FU (by omega) (FU_lt (by omega))
    · rw [if_neg (show ¬ nI (tkE y n s - s) = nI (stL i) by rw [eq_eq (by omega) (by omega)]; exact zl), decide_eq_false (show ¬ tkE y n s - s = sLen.getD (stN i) 0 from zl), Bool.false_and]
      exact hno
  · rw [if_neg (show ¬ nI (mkT (tkK y n s)) = nI 2 by rw [eq_eq hmk.1 (by omega)]; exact fun z => z2 (hmk.2.mp z)), decide_eq_false z2, Bool.false_and]
    exact hno
-- after a fault no word is there
set_option maxRecDepth 100000 in
set_option maxHeartbeats 400000 in
theorem c_isWF (h4 : S 167 13 = nI 1) {i : Nat} : gX11_isWord 167 i (hp S J T) = some (nI 0, hp S J T) := by
  unfold gX11_isWord fX11_isWord_0
  rw [mo_g13, Option.bind_some, h4, if_neg (show ¬ nI 1 = 0 by decide)]
  simp only [fX11_isWord_26, kI_0, n0_0, true_or, if_true, z0_z, ↓reduceIte]
-- the sort of a line
def lsN (y : Nat → Nat) (n s : Nat) : Option Nat := if wdB y n s 0 then some 0 else if wdB y n s 1 then some 1 else if wdB y n s 2 then some 2 else if wdB y n s 3 then some 3 else if wdB y n s 4 then some 4 else if wdB y n s 5 then some 5 else none
set_option maxRecDepth 100000 in
set_option maxHeartbeats 400000 in
theorem c_lsort (h : tC S y n s) : gX8_lineSort 1 (hp S J T) = some (om (lsN y n s), hp S J T) := by
  have w0 := c_isW (J := J) (T := T) h (i := 0) (by omega)
  have w1 := c_isW (J := J) (T := T) h (i := 1) (by omega)
  have w2 := c_isW (J := J) (T := T) h (i := 2) (by omega)
  have w3 := c_isW (J := J) (T := T) h (i := 3) (by omega)
  have w4 := c_isW (J := J) (T := T) h (i := 4) (by omega)
  have w5 := c_isW (J := J) (T := T) h (i := 5) (by omega)
  rw [show stN 0 = 0 from rfl] at w0
  rw [show stN 1 = 1 from rfl] at w1
  rw [show stN 2 = 2 from rfl] at w2
  rw [show stN 3 = 3 from rfl] at w3
  rw [show stN 4 = 4 from rfl] at w4
  rw [show stN 5 = 5 from rfl] at w5
  unfold lsN
  cases z0 : wdB y n s 0 with
  | true => rw [z0] at w0; simp only [gX8_lineSort, fX8_lineSort_0, fX8_lineSort_1, fX8_lineSort_3, fX8_lineSort_6, fX8_lineSort_9, fX8_lineSort_11, fX8_lineSort_12, fX8_lineSort_14, fX8_lineSort_17, fX8_lineSort_20, fX8_lineSort_22, fX8_lineSort_23, fX8_lineSort_25, fX8_lineSort_28, fX8_lineSort_31, fX8_lineSort_33, fX8_lineSort_34, fX8_lineSort_36, fX8_lineSort_39, fX8_lineSort_42, fX8_lineSort_44, fX8_lineSort_45, fX8_lineSort_47, fX8_lineSort_50, fX8_lineSort_53, fX8_lineSort_55, fX8_lineSort_56, fX8_lineSort_58, fX8_lineSort_61, fX8_lineSort_64, fX8_lineSort_68, fX8_lineSort_69, rd_isO, kI_0, kI_1, kI_2, kI_3, kI_4, kI_5, kI_n, Option.bind_some, n35, n9, n19, n51, n59, nI_add, ix2, ix8, ix22, ix5, ↓reduceIte, rd_isO, w0, bI_t, n1_0, om, if_true]
  | false =>
    rw [z0] at w0
    cases z1 : wdB y n s 1 with
    | true => rw [z1] at w1; simp only [gX8_lineSort, fX8_lineSort_0, fX8_lineSort_1, fX8_lineSort_3, fX8_lineSort_6, fX8_lineSort_9, fX8_lineSort_11, fX8_lineSort_12, fX8_lineSort_14, fX8_lineSort_17, fX8_lineSort_20, fX8_lineSort_22, fX8_lineSort_23, fX8_lineSort_25, fX8_lineSort_28, fX8_lineSort_31, fX8_lineSort_33, fX8_lineSort_34, fX8_lineSort_36, fX8_lineSort_39, fX8_lineSort_42, fX8_lineSort_44, fX8_lineSort_45, fX8_lineSort_47, fX8_lineSort_50, fX8_lineSort_53, fX8_lineSort_55, fX8_lineSort_56, fX8_lineSort_58, fX8_lineSort_61, fX8_lineSort_64, fX8_lineSort_68, fX8_lineSort_69, rd_isO, kI_0, kI_1, kI_2, kI_3, kI_4, kI_5, kI_n, Option.bind_some, n35, n9, n19, n51, n59, nI_add, ix2, ix8, ix22, ix5, ↓reduceIte, rd_isO, w0, w1, bI_t, bI_f, n0_0, n1_0, om, Bool.false_eq_true, if_true]
    | false =>
      rw [z1] at w1
      cases z2 : wdB y n s 2 with
      | true => rw [z2] at w2; simp only [gX8_lineSort, fX8_lineSort_0, fX8_lineSort_1, fX8_lineSort_3, fX8_lineSort_6, fX8_lineSort_9, fX8_lineSort_11, fX8_lineSort_12, fX8_lineSort_14, fX8_lineSort_17, fX8_lineSort_20, fX8_lineSort_22, fX8_lineSort_23, fX8_lineSort_25, fX8_lineSort_28, fX8_lineSort_31, fX8_lineSort_33, fX8_lineSort_34, fX8_lineSort_36, fX8_lineSort_39, fX8_lineSort_42, fX8_lineSort_44, fX8_lineSort_45, fX8_lineSort_47, fX8_lineSort_50, fX8_lineSort_53, fX8_lineSort_55, fX8_lineSort_56, fX8_lineSort_58, fX8_lineSort_61, fX8_lineSort_64, fX8_lineSort_68, fX8_lineSort_69, rd_isO, kI_0, kI_1, kI_2, kI_3, kI_4, kI_5, kI_n, Option.bind_some, n35, n9, n19, n51, n59, nI_add, ix2, ix8, ix22, ix5, ↓reduceIte, rd_isO, w0, w1, w2, bI_t, bI_f, n0_0, n1_0, om, Bool.false_eq_true, if_true]
      | false =>
        rw [z2] at w2
        cases z3 : wdB y n s 3 with
        | true => rw [z3] at w3; simp only [gX8_lineSort, fX8_lineSort_0, fX8_lineSort_1, fX8_lineSort_3, fX8_lineSort_6, fX8_lineSort_9, fX8_lineSort_11, fX8_lineSort_12, fX8_lineSort_14, fX8_lineSort_17, fX8_lineSort_20, fX8_lineSort_22, fX8_lineSort_23, fX8_lineSort_25, fX8_lineSort_28, fX8_lineSort_31, fX8_lineSort_33, fX8_lineSort_34, fX8_lineSort_36, fX8_lineSort_39, fX8_lineSort_42, fX8_lineSort_44, fX8_lineSort_45, fX8_lineSort_47, fX8_lineSort_50, fX8_lineSort_53, fX8_lineSort_55, fX8_lineSort_56, fX8_lineSort_58, fX8_lineSort_61, fX8_lineSort_64, fX8_lineSort_68, fX8_lineSort_69, rd_isO, kI_0, kI_1, kI_2, kI_3, kI_4, kI_5, kI_n, Option.bind_some, n35, n9, n19, n51, n59, nI_add, ix2, ix8, ix22, ix5, ↓reduceIte, rd_isO, w0, w1, w2, w3, bI_t, bI_f, n0_0, n1_0, om, Bool.false_eq_true, if_true]
        | false =>
          rw [z3] at w3
          cases z4 : wdB y n s 4 with
          | true => rw [z4] at w4; simp only [gX8_lineSort, fX8_lineSort_0, fX8_lineSort_1, fX8_lineSort_3, fX8_lineSort_6, fX8_lineSort_9, fX8_lineSort_11, fX8_lineSort_12, fX8_lineSort_14, fX8_lineSort_17, fX8_lineSort_20, fX8_lineSort_22, fX8_lineSort_23, fX8_lineSort_25, fX8_lineSort_28, fX8_lineSort_31, fX8_lineSort_33, fX8_lineSort_34, fX8_lineSort_36, fX8_lineSort_39, fX8_lineSort_42, fX8_lineSort_44, fX8_lineSort_45, fX8_lineSort_47, fX8_lineSort_50, fX8_lineSort_53, fX8_lineSort_55, fX8_lineSort_56, fX8_lineSort_58, fX8_lineSort_61, fX8_lineSort_64, fX8_lineSort_68, fX8_lineSort_69, rd_isO, kI_0, kI_1, kI_2, kI_3, kI_4, kI_5, kI_n, Option.bind_some, n35, n9, n19, n51, n59, nI_add, ix2, ix8, ix22, ix5, ↓reduceIte, rd_isO, w0, w1, w2, w3, w4, bI_t, bI_f, n0_0, n1_0, om, Bool.false_eq_true, if_true]
          | false =>
            rw [z4] at w4
            cases z5 : wdB y n s 5 with
            | true => rw [z5] at w5; simp only [gX8_lineSort, fX8_lineSort_0, fX8_lineSort_1, fX8_lineSort_3, fX8_lineSort_6, fX8_lineSort_9, fX8_lineSort_11, fX8_lineSort_12, fX8_lineSort_14, fX8_lineSort_17, fX8_lineSort_20, fX8_lineSort_22, fX8_lineSort_23, fX8_lineSort_25, fX8_lineSort_28, fX8_lineSort_31, fX8_lineSort_33, fX8_lineSort_34, fX8_lineSort_36, fX8_lineSort_39, fX8_lineSort_42, fX8_lineSort_44, fX8_lineSort_45, fX8_lineSort_47, fX8_lineSort_50, fX8_lineSort_53, fX8_lineSort_55, fX8_lineSort_56, fX8_lineSort_58, fX8_lineSort_61, fX8_lineSort_64, fX8_lineSort_68, fX8_lineSort_69, rd_isO, kI_0, kI_1, kI_2, kI_3, kI_4, kI_5, kI_n, Option.bind_some, n35, n9, n19, n51, n59, nI_add, ix2, ix8, ix22, ix5, ↓reduceIte, rd_isO, w0, w1, w2, w3, w4, w5, bI_t, bI_f, n0_0, n1_0, om, Bool.false_eq_true, if_true]
            | false => rw [z5] at w5; simp only [gX8_lineSort, fX8_lineSort_0, fX8_lineSort_1, fX8_lineSort_3, fX8_lineSort_6, fX8_lineSort_9, fX8_lineSort_11, fX8_lineSort_12, fX8_lineSort_14, fX8_lineSort_17, fX8_lineSort_20, fX8_lineSort_22, fX8_lineSort_23, fX8_lineSort_25, fX8_lineSort_28, fX8_lineSort_31, fX8_lineSort_33, fX8_lineSort_34, fX8_lineSort_36, fX8_lineSort_39, fX8_lineSort_42, fX8_lineSort_44, fX8_lineSort_45, fX8_lineSort_47, fX8_lineSort_50, fX8_lineSort_53, fX8_lineSort_55, fX8_lineSort_56, fX8_lineSort_58, fX8_lineSort_61, fX8_lineSort_64, fX8_lineSort_68, fX8_lineSort_69, rd_isO, kI_0, kI_1, kI_2, kI_3, kI_4, kI_5, kI_n, Option.bind_some, n35, n9, n19, n51, n59, nI_add, ix2, ix8, ix22, ix5, ↓reduceIte, rd_isO, w0, w1, w2, w3, w4, w5, bI_f, n0_0, om, Bool.false_eq_true]
end WM

-- THE TEXT, the reference: is it told already
set_option maxRecDepth 100000 in
set_option maxHeartbeats 400000 in
theorem anyR2_mo {R : Row} {a : Nat} {x z : Int32} {k : Nat} (h : anyR2 R a x z k = true) : ∀ m, anyR2 R a x z (k + m) = true := by
  intro m
  induction m with
  | zero => exact h
  | succ m ih =>
    show (anyR2 R a x z (k + m) || (decide (R (a + 2 * (k + m)) = x) && decide (R (a + 1 + 2 * (k + m)) = z))) = true
    rw [ih, Bool.true_or]
section RMA
variable {S : Mem} {J : MeJ} {T : Nat → Nat} {y : Nat → Nat} {n s K : Nat} {R : Row} {x x2 v1 v2 : Int32}
set_option maxRecDepth 100000 in
set_option maxHeartbeats 400000 in
theorem c_lnmF (h : S 167 13 = nI 1) (hK : S 171 4 = nI K) (hb : K ≤ 8) : ∀ m k g, k + m = K → m < g → lX11_nameLine_49 g 167 v1 x (nI k) (hp S J T) = fX11_nameLine_96 167 v1 x (hp S J T) := by
  intro m
  induction m with
  | zero =>
    intro k g hk hg
    obtain ⟨g, rfl⟩ : ∃ z, g = z + 1 := ⟨g - 1, by omega⟩
    unfold lX11_nameLine_49 fX11_nameLine_49
    rw [mo_f16, Option.bind_some, kI_4, mo_r16 (by omega), Option.bind_some, hK, if_neg (nltn (show ¬ k < K by omega) (by omega) (by omega))]
  | succ m ih =>
    intro k g hk hg
    obtain ⟨g, rfl⟩ : ∃ z, g = z + 1 := ⟨g - 1, by omega⟩
    rw [← ih (k + 1) g (by omega) (by omega)]
    conv => lhs; unfold lX11_nameLine_49
    unfold fX11_nameLine_49
    rw [mo_f16, Option.bind_some, kI_4, mo_r16 (by omega), Option.bind_some, hK, if_pos (ltn (show k < K by omega) (by omega))]
    unfold fX11_nameLine_59
    rw [mo_g13, Option.bind_some, h, if_neg (show ¬ nI 1 = 0 by decide)]
    unfold fX11_nameLine_90
    rw [kI_1, nI_add]
set_option maxRecDepth 100000 in
set_option maxHeartbeats 400000 in
theorem c_lnm (h : tM S y n s) (hK : S 171 4 = nI K) (hb : K ≤ 8) (hr : ∀ k, k < K → S 171 (19 + 2 * k) = R (19 + 2 * k)) (hk8 : 19 + 2 * K < 180) : ∀ m k g, k + m = K → m < g → anyR R 19 x k = false → ∃ S', lX11_nameLine_49 g 167 v1 x (nI k) (hp S J T) = fX11_nameLine_96 167 v1 x (hp S' J T) ∧ (anyR R 19 x K = false → S' = S) ∧ (anyR R 19 x K = true → fTM S' (3, s)) ∧ frM S S' := by
  intro m
  induction m with
  | zero =>
    intro k g hk hg ha
    obtain ⟨g, rfl⟩ : ∃ z, g = z + 1 := ⟨g - 1, by omega⟩
    obtain rfl : k = K := by omega
    refine ⟨S, ?_, fun _ => rfl, (fun z => by rw [ha] at z; cases z), frM_rf S⟩
    unfold lX11_nameLine_49 fX11_nameLine_49
    rw [mo_f16, Option.bind_some, kI_4, mo_r16 (by omega), Option.bind_some, hK, if_neg (nltn (Nat.lt_irrefl _) (by omega) (by omega))]
  | succ m ih =>
    intro k g hk hg ha
    obtain ⟨g, rfl⟩ : ∃ z, g = z + 1 := ⟨g - 1, by omega⟩
    have eA : anyR R 19 x (k + 1) = (anyR R 19 x k || decide (R (19 + 2 * k) = x)) := rfl
    conv => enter [1, S', 1, 1]; unfold lX11_nameLine_49
    unfold fX11_nameLine_49
    rw [mo_f16, Option.bind_some, kI_4, mo_r16 (by omega), Option.bind_some, hK, if_pos (ltn (show k < K by omega) (by omega))]
    unfold fX11_nameLine_59
    rw [mo_g13, Option.bind_some, h.2.2.2.1, if_pos (show nI 0 = 0 from rfl)]
    unfold fX11_nameLine_66
    rw [mo_f16, Option.bind_some, kB_19, kI_2, ix2, mo_r16 (by omega), Option.bind_some, hr k (by omega)]
    by_cases zx : R (19 + 2 * k) = x
    · rw [if_pos zx]
      rw [ha, decide_eq_true zx, Bool.or_true] at eA
      obtain ⟨S4, g1, g2, g3⟩ := c_wrg (J := J) (T := T) h.2.2.2.1 3 s
      have aK : anyR R 19 x K = true := by
        have := anyR_mo eA m
        rwa [show k + 1 + m = K by omega] at this
      refine ⟨S4, ?_, (fun z => by rw [aK] at z; cases z), fun _ => g2, g3⟩
      rw [← c_lnmF g2.1 (by rw [g3.1 171 (by omega) (by omega)]; exact hK) hb m (k + 1) g (by omega) (by omega)]
      unfold fX11_nameLine_81 fX11_nameLine_87
      rw [mo_g4, Option.bind_some, h.2.2.2.2.1, mo_isO, Option.bind_some, kI_3, g1, Option.bind_some]
      unfold fX11_nameLine_90
      rw [kI_1, nI_add]
    · rw [if_neg zx]
      rw [ha, decide_eq_false zx, Bool.or_false] at eA
      obtain ⟨S4, q1, q2⟩ := ih (k + 1) g (by omega) (by omega) eA
      refine ⟨S4, ?_, q2⟩
      rw [← q1]
      unfold fX11_nameLine_90
      rw [kI_1, nI_add]
set_option maxRecDepth 100000 in
set_option maxHeartbeats 400000 in
theorem c_lunF (h : S 167 13 = nI 1) (hK : S 171 6 = nI K) (hb : K ≤ 8) : ∀ m k g, k + m = K → m < g → lX11_unsureLine_28 g 167 v1 x (nI k) (hp S J T) = fX11_unsureLine_76 167 v1 x (hp S J T) := by
  intro m
  induction m with
  | zero =>
    intro k g hk hg
    obtain ⟨g, rfl⟩ : ∃ z, g = z + 1 := ⟨g - 1, by omega⟩
    unfold lX11_unsureLine_28 fX11_unsureLine_28
    rw [mo_f16, Option.bind_some, kB_6, mo_r16 (by omega), Option.bind_some, hK, if_neg (nltn (show ¬ k < K by omega) (by omega) (by omega))]
  | succ m ih =>
    intro k g hk hg
    obtain ⟨g, rfl⟩ : ∃ z, g = z + 1 := ⟨g - 1, by omega⟩
    rw [← ih (k + 1) g (by omega) (by omega)]
    conv => lhs; unfold lX11_unsureLine_28
    unfold fX11_unsureLine_28
    rw [mo_f16, Option.bind_some, kB_6, mo_r16 (by omega), Option.bind_some, hK, if_pos (ltn (show k < K by omega) (by omega))]
    unfold fX11_unsureLine_39
    rw [mo_g13, Option.bind_some, h, if_neg (show ¬ nI 1 = 0 by decide)]
    unfold fX11_unsureLine_70
    rw [kI_1, nI_add]
set_option maxRecDepth 100000 in
set_option maxHeartbeats 400000 in
theorem c_lun (h : tM S y n s) (hK : S 171 6 = nI K) (hb : K ≤ 8) (hr : ∀ k, k < K → S 171 (51 + 2 * k) = R (51 + 2 * k)) (hk8 : 51 + 2 * K < 180) : ∀ m k g, k + m = K → m < g → anyR R 51 x k = false → ∃ S', lX11_unsureLine_28 g 167 v1 x (nI k) (hp S J T) = fX11_unsureLine_76 167 v1 x (hp S' J T) ∧ (anyR R 51 x K = false → S' = S) ∧ (anyR R 51 x K = true → fTM S' (3, s)) ∧ frM S S' := by
  intro m
  induction m with
  | zero =>
    intro k g hk hg ha
    obtain ⟨g, rfl⟩ : ∃ z, g = z + 1 := ⟨g - 1, by omega⟩
    obtain rfl : k = K := by omega
    refine ⟨S, ?_, fun _ => rfl, (fun z => by rw [ha] at z; cases z), frM_rf S⟩
    unfold lX11_unsureLine_28 fX11_unsureLine_28
    rw [mo_f16, Option.bind_some, kB_6, mo_r16 (by omega), Option.bind_some, hK, if_neg (nltn (Nat.lt_irrefl _) (by omega) (by omega))]
  | succ m ih =>
    intro k g hk hg ha
    obtain ⟨g, rfl⟩ : ∃ z, g = z + 1 := ⟨g - 1, by omega⟩
    have eA : anyR R 51 x (k + 1) = (anyR R 51 x k || decide (R (51 + 2 * k) = x)) := rfl
    conv => enter [1, S', 1, 1]; unfold lX11_unsureLine_28
    unfold fX11_unsureLine_28
    rw [mo_f16, Option.bind_some, kB_6, mo_r16 (by omega), Option.bind_some, hK, if_pos (ltn (show k < K by omega) (by omega))]
    unfold fX11_unsureLine_39
    rw [mo_g13, Option.bind_some, h.2.2.2.1, if_pos (show nI 0 = 0 from rfl)]
    unfold fX11_unsureLine_46
    rw [mo_f16, Option.bind_some, kB_51, kI_2, ix2, mo_r16 (by omega), Option.bind_some, hr k (by omega)]
    by_cases zx : R (51 + 2 * k) = x
    · rw [if_pos zx]
      rw [ha, decide_eq_true zx, Bool.or_true] at eA
      obtain ⟨S4, g1, g2, g3⟩ := c_wrg (J := J) (T := T) h.2.2.2.1 3 s
      have aK : anyR R 51 x K = true := by
        have := anyR_mo eA m
        rwa [show k + 1 + m = K by omega] at this
      refine ⟨S4, ?_, (fun z => by rw [aK] at z; cases z), fun _ => g2, g3⟩
      rw [← c_lunF g2.1 (by rw [g3.1 171 (by omega) (by omega)]; exact hK) hb m (k + 1) g (by omega) (by omega)]
      unfold fX11_unsureLine_61 fX11_unsureLine_67
      rw [mo_g4, Option.bind_some, h.2.2.2.2.1, mo_isO, Option.bind_some, kI_3, g1, Option.bind_some]
      unfold fX11_unsureLine_70
      rw [kI_1, nI_add]
    · rw [if_neg zx]
      rw [ha, decide_eq_false zx, Bool.or_false] at eA
      obtain ⟨S4, q1, q2⟩ := ih (k + 1) g (by omega) (by omega) eA
      refine ⟨S4, ?_, q2⟩
      rw [← q1]
      unfold fX11_unsureLine_70
      rw [kI_1, nI_add]
set_option maxRecDepth 100000 in
set_option maxHeartbeats 400000 in
theorem c_lhdF (h : S 167 13 = nI 1) (hK : S 171 7 = nI K) (hb : K ≤ 8) : ∀ m k g, k + m = K → m < g → lX11_heardLine_47 g 167 v1 v2 x (nI k) (hp S J T) = fX11_heardLine_99 167 v1 v2 x (hp S J T) := by
  intro m
  induction m with
  | zero =>
    intro k g hk hg
    obtain ⟨g, rfl⟩ : ∃ z, g = z + 1 := ⟨g - 1, by omega⟩
    unfold lX11_heardLine_47 fX11_heardLine_47
    rw [mo_f16, Option.bind_some, kB_7, mo_r16 (by omega), Option.bind_some, hK, if_neg (nltn (show ¬ k < K by omega) (by omega) (by omega))]
  | succ m ih =>
    intro k g hk hg
    obtain ⟨g, rfl⟩ : ∃ z, g = z + 1 := ⟨g - 1, by omega⟩
    rw [← ih (k + 1) g (by omega) (by omega)]
    conv => lhs; unfold lX11_heardLine_47
    unfold fX11_heardLine_47
    rw [mo_f16, Option.bind_some, kB_7, mo_r16 (by omega), Option.bind_some, hK, if_pos (ltn (show k < K by omega) (by omega))]
    unfold fX11_heardLine_59
    rw [mo_g13, Option.bind_some, h, if_neg (show ¬ nI 1 = 0 by decide)]
    unfold fX11_heardLine_93
    rw [kI_1, nI_add]
set_option maxRecDepth 100000 in
set_option maxHeartbeats 400000 in
theorem c_lhd (h : tM S y n s) (hK : S 171 7 = nI K) (hb : K ≤ 8) (hr : ∀ k, k < K → S 171 (59 + 2 * k + 1) = R (60 + 2 * k)) (hk8 : 59 + 2 * K < 180) : ∀ m k g, k + m = K → m < g → anyR R 60 x k = false → ∃ S', lX11_heardLine_47 g 167 v1 v2 x (nI k) (hp S J T) = fX11_heardLine_99 167 v1 v2 x (hp S' J T) ∧ (anyR R 60 x K = false → S' = S) ∧ (anyR R 60 x K = true → fTM S' (3, s)) ∧ frM S S' := by
  intro m
  induction m with
  | zero =>
    intro k g hk hg ha
    obtain ⟨g, rfl⟩ : ∃ z, g = z + 1 := ⟨g - 1, by omega⟩
    obtain rfl : k = K := by omega
    refine ⟨S, ?_, fun _ => rfl, (fun z => by rw [ha] at z; cases z), frM_rf S⟩
    unfold lX11_heardLine_47 fX11_heardLine_47
    rw [mo_f16, Option.bind_some, kB_7, mo_r16 (by omega), Option.bind_some, hK, if_neg (nltn (Nat.lt_irrefl _) (by omega) (by omega))]
  | succ m ih =>
    intro k g hk hg ha
    obtain ⟨g, rfl⟩ : ∃ z, g = z + 1 := ⟨g - 1, by omega⟩
    have eA : anyR R 60 x (k + 1) = (anyR R 60 x k || decide (R (60 + 2 * k) = x)) := rfl
    conv => enter [1, S', 1, 1]; unfold lX11_heardLine_47
    unfold fX11_heardLine_47
    rw [mo_f16, Option.bind_some, kB_7, mo_r16 (by omega), Option.bind_some, hK, if_pos (ltn (show k < K by omega) (by omega))]
    unfold fX11_heardLine_59
    rw [mo_g13, Option.bind_some, h.2.2.2.1, if_pos (show nI 0 = 0 from rfl)]
    unfold fX11_heardLine_66
    rw [mo_f16, Option.bind_some, kB_59, kI_2, ix2, kI_1, nI_add, mo_r16 (by omega), Option.bind_some, hr k (by omega)]
    by_cases zx : R (60 + 2 * k) = x
    · rw [if_pos zx]
      rw [ha, decide_eq_true zx, Bool.or_true] at eA
      obtain ⟨S4, g1, g2, g3⟩ := c_wrg (J := J) (T := T) h.2.2.2.1 3 s
      have aK : anyR R 60 x K = true := by
        have := anyR_mo eA m
        rwa [show k + 1 + m = K by omega] at this
      refine ⟨S4, ?_, (fun z => by rw [aK] at z; cases z), fun _ => g2, g3⟩
      rw [← c_lhdF g2.1 (by rw [g3.1 171 (by omega) (by omega)]; exact hK) hb m (k + 1) g (by omega) (by omega)]
      unfold fX11_heardLine_84 fX11_heardLine_90
      rw [mo_g4, Option.bind_some, h.2.2.2.2.1, mo_isO, Option.bind_some, kI_3, g1, Option.bind_some]
      unfold fX11_heardLine_93
      rw [kI_1, nI_add]
    · rw [if_neg zx]
      rw [ha, decide_eq_false zx, Bool.or_false] at eA
      obtain ⟨S4, q1, q2⟩ := ih (k + 1) g (by omega) (by omega) eA
      refine ⟨S4, ?_, q2⟩
      rw [← q1]
      unfold fX11_heardLine_93
      rw [kI_1, nI_add]
set_option maxRecDepth 100000 in
set_option maxHeartbeats 400000 in
theorem c_lfsF (h : S 167 13 = nI 1) (hK : S 171 5 = nI K) (hb : K ≤ 8) : ∀ m k g, k + m = K → m < g → lX11_fastLine_46 g 167 v1 x x2 (nI k) (hp S J T) = fX11_fastLine_113 167 v1 x x2 (hp S J T) := by
  intro m
  induction m with
  | zero =>
    intro k g hk hg
    obtain ⟨g, rfl⟩ : ∃ z, g = z + 1 := ⟨g - 1, by omega⟩
    unfold lX11_fastLine_46 fX11_fastLine_46
    rw [mo_f16, Option.bind_some, kI_5, mo_r16 (by omega), Option.bind_some, hK, if_neg (nltn (show ¬ k < K by omega) (by omega) (by omega))]
  | succ m ih =>
    intro k g hk hg
    obtain ⟨g, rfl⟩ : ∃ z, g = z + 1 := ⟨g - 1, by omega⟩
    rw [← ih (k + 1) g (by omega) (by omega)]
    conv => lhs; unfold lX11_fastLine_46
    unfold fX11_fastLine_46
    rw [mo_f16, Option.bind_some, kI_5, mo_r16 (by omega), Option.bind_some, hK, if_pos (ltn (show k < K by omega) (by omega))]
    unfold fX11_fastLine_57
    rw [mo_g13, Option.bind_some, h, if_neg (show ¬ nI 1 = 0 by decide)]
    unfold fX11_fastLine_107
    rw [kI_1, nI_add]
set_option maxRecDepth 100000 in
set_option maxHeartbeats 400000 in
theorem c_lfs (h : tM S y n s) (hK : S 171 5 = nI K) (hb : K ≤ 8) (hr : ∀ k, k < K → S 171 (35 + 2 * k) = R (35 + 2 * k) ∧ S 171 (35 + 2 * k + 1) = R (35 + 1 + 2 * k)) (hk8 : 35 + 2 * K < 180) : ∀ m k g, k + m = K → m < g → anyR2 R 35 x x2 k = false → ∃ S', lX11_fastLine_46 g 167 v1 x x2 (nI k) (hp S J T) = fX11_fastLine_113 167 v1 x x2 (hp S' J T) ∧ (anyR2 R 35 x x2 K = false → S' = S) ∧ (anyR2 R 35 x x2 K = true → fTM S' (3, s)) ∧ frM S S' := by
  intro m
  induction m with
  | zero =>
    intro k g hk hg ha
    obtain ⟨g, rfl⟩ : ∃ z, g = z + 1 := ⟨g - 1, by omega⟩
    obtain rfl : k = K := by omega
    refine ⟨S, ?_, fun _ => rfl, (fun z => by rw [ha] at z; cases z), frM_rf S⟩
    unfold lX11_fastLine_46 fX11_fastLine_46
    rw [mo_f16, Option.bind_some, kI_5, mo_r16 (by omega), Option.bind_some, hK, if_neg (nltn (Nat.lt_irrefl _) (by omega) (by omega))]
  | succ m ih =>
    intro k g hk hg ha
    obtain ⟨g, rfl⟩ : ∃ z, g = z + 1 := ⟨g - 1, by omega⟩
    have eA : anyR2 R 35 x x2 (k + 1) = (anyR2 R 35 x x2 k || (decide (R (35 + 2 * k) = x) && decide (R (35 + 1 + 2 * k) = x2))) := rfl
    conv => enter [1, S', 1, 1]; unfold lX11_fastLine_46
    unfold fX11_fastLine_46
    rw [mo_f16, Option.bind_some, kI_5, mo_r16 (by omega), Option.bind_some, hK, if_pos (ltn (show k < K by omega) (by omega))]
    unfold fX11_fastLine_57
    rw [mo_g13, Option.bind_some, h.2.2.2.1, if_pos (show nI 0 = 0 from rfl)]
    unfold fX11_fastLine_64
    rw [mo_f16, Option.bind_some, kB_35, kI_2, ix2, mo_r16 (by omega), Option.bind_some, (hr k (by omega)).1]
    have eno : anyR2 R 35 x x2 (k + 1) = false → ∃ S', fX11_fastLine_107 (lX11_fastLine_46 g) 167 v1 x x2 (nI k) (hp S J T) = fX11_fastLine_113 167 v1 x x2 (hp S' J T) ∧ (anyR2 R 35 x x2 K = false → S' = S) ∧ (anyR2 R 35 x x2 K = true → fTM S' (3, s)) ∧ frM S S' := fun eA' => by
      obtain ⟨S4, q1, q2⟩ := ih (k + 1) g (by omega) (by omega) eA'
      refine ⟨S4, ?_, q2⟩
      rw [← q1]
      unfold fX11_fastLine_107
      rw [kI_1, nI_add]
    by_cases zx : R (35 + 2 * k) = x
    · rw [if_pos zx]
      unfold fX11_fastLine_80
      rw [mo_f16, Option.bind_some, kB_35, kI_2, ix2, kI_1, nI_add, mo_r16 (by omega), Option.bind_some, (hr k (by omega)).2]
      by_cases zy : R (35 + 1 + 2 * k) = x2
      · rw [if_pos zy]
        rw [ha, decide_eq_true zx, decide_eq_true zy, Bool.and_self, Bool.or_true] at eA
        obtain ⟨S4, g1, g2, g3⟩ := c_wrg (J := J) (T := T) h.2.2.2.1 3 s
        have aK : anyR2 R 35 x x2 K = true := by
          have := anyR2_mo eA m
          rwa [show k + 1 + m = K by omega] at this
        refine ⟨S4, ?_, (fun z => by rw [aK] at z; cases z), fun _ => g2, g3⟩
        rw [← c_lfsF g2.1 (by rw [g3.1 171 (by omega) (by omega)]; exact hK) hb m (k + 1) g (by omega) (by omega)]
        unfold fX11_fastLine_98 fX11_fastLine_104
        rw [mo_g4, Option.bind_some, h.2.2.2.2.1, mo_isO, Option.bind_some, kI_3, g1, Option.bind_some]
        unfold fX11_fastLine_107
        rw [kI_1, nI_add]
      · rw [if_neg zy]
        rw [ha, decide_eq_true zx, decide_eq_false zy, Bool.and_false, Bool.or_false] at eA
        exact eno eA
    · rw [if_neg zx]
      rw [ha, decide_eq_false zx, Bool.false_and, Bool.or_false] at eA
      exact eno eA
end RMA

-- THE TEXT: words
def wdM (y : Nat → Nat) (s q k : Nat) : Prop := nI (y (s + k)) = (sByt.getD q []).getD k 0
def wdA (y : Nat → Nat) (s q : Nat) : Nat → Bool
  | 0 => true
  | k + 1 => wdA y s q k && decide (nI (y (s + k)) = (sByt.getD q []).getD k 0)
def wdB (y : Nat → Nat) (n s q : Nat) : Bool := decide (tkK y n s = 2) && (decide (tkE y n s - s = sLen.getD q 0) && wdA y s q (sLen.getD q 0))
set_option maxRecDepth 100000 in
set_option maxHeartbeats 400000 in
theorem wdA_f {y : Nat → Nat} {s q k : Nat} (h : wdA y s q k = false) : ∀ m, wdA y s q (k + m) = false := by
  intro m
  induction m with
  | zero => exact h
  | succ m ih =>
    show (wdA y s q (k + m) && _) = false
    rw [ih, Bool.false_and]
set_option maxRecDepth 100000 in
set_option maxHeartbeats 400000 in
theorem tk2 {y : Nat → Nat} {n s : Nat} (h : tkK y n s = 2) : s < n ∧ tkE y n s = rn (fun k => ltB (y k)) n s ∧ tkE y n s - s ≤ 8 ∧ (∀ i, s ≤ i → i < tkE y n s → ltB (y i) = true) ∧ s < tkE y n s := by
  unfold tkK at h
  by_cases hsn : s < n
  · rw [if_pos hsn] at h
    by_cases z59 : y s = 59
    · rw [if_pos z59] at h; omega
    · rw [if_neg z59] at h
      cases zl : ltB (y s) with
      | true =>
        have eE : tkE y n s = rn (fun k => ltB (y k)) n s := by unfold tkE; rw [if_pos hsn, if_neg z59, zl, if_pos rfl]
        rw [zl, if_pos rfl] at h
        refine ⟨hsn, eE, ?_, fun i z1 z2 => by rw [eE] at z2; exact (rn_in (p := fun k => ltB (y k)) z1 z2).1, ?_⟩
        · rw [eE]
          by_cases z8 : 8 < rn (fun k => ltB (y k)) n s - s
          · rw [if_pos z8] at h; omega
          · omega
        · rw [eE, rn_s hsn zl]
          have := rn_ge (p := fun k => ltB (y k)) (n := n) (k := s + 1)
          omega
      | false =>
        rw [zl, if_neg (by decide)] at h
        split at h
        · split at h <;> omega
        · omega
  · rw [if_neg hsn] at h; omega
section WD
variable {S : Mem} {J : MeJ} {T : Nat → Nat} {y : Nat → Nat} {n s : Nat}
set_option maxRecDepth 100000 in
set_option maxHeartbeats 400000 in
theorem c_len {i : Nat} (hi : i < 34) {h : aH} : gJ0_length_8abf5 (SB + i) h = some (nI (stL i), h) := by
  unfold gJ0_length_8abf5
  rw [show SB + i - SB = i by omega, if_pos ⟨by omega, hi⟩]
set_option maxRecDepth 100000 in
set_option maxHeartbeats 400000 in
theorem c_chr {i k : Nat} (hi : i < 34) (hk : k < stL i) {h : aH} : gJ0_charAt_5068e (SB + i) (nI k) h = some (stC i k, h) := by
  have h10 := (st_ok i hi).1
  have e : (nI k).toNatClampNeg = k := cl_lt (by omega)
  unfold gJ0_charAt_5068e
  rw [show SB + i - SB = i by omega, e, if_pos ⟨by omega, hi, hk, rfl⟩]
set_option maxRecDepth 100000 in
set_option maxHeartbeats 400000 in
theorem c_isWC (ht : tpC S y n) (hsn : s ≤ n) (h10 : S 1 10 = nI s) (h11 : S 1 11 = nI (tkE y n s)) (h12 : S 1 12 = nI (tkK y n s)) {i : Nat} (hi : i < 34) : gX8_isWord 1 (SB + i) (hp S J T) = some (bI (wdB y n s (stN i)), hp S J T) := by
  have hn7 := ht.1
  obtain ⟨l10, l1, -⟩ := st_ok i hi
  have eL : sLen.getD (stN i) 0 = stL i := rfl
  have hE := tkE_b (y := y) hsn
  have hno : fX8_isWord_24 (hp S J T) = some (bI false, hp S J T) := by simp only [fX8_isWord_24, kI_0, n0_0, true_or, if_true, z0_z, ↓reduceIte, bI_f]
  have hK5 : tkK y n s < 5000 := by
    have : tkK y n s ≤ 4 := by
      unfold tkK
      split
      · split
        · omega
        · split
          · split <;> omega
          · split
            · split <;> omega
            · omega
      · omega
    omega
  unfold gX8_isWord fX8_isWord_0 wdB
  rw [rd_g12, Option.bind_some, h12, kI_2]
  by_cases z2 : tkK y n s = 2
  · rw [z2, if_pos rfl, decide_eq_true rfl, Bool.true_and]
    obtain ⟨t1, t2, t3, t4, t5⟩ := tk2 z2
    unfold fX8_isWord_8
    rw [rd_g11, Option.bind_some, rd_g10, Option.bind_some, h11, h10, nI_sub hE.1]
    unfold fX8_isWord_18
    rw [c_len hi, Option.bind_some]
    unfold fX8_isWord_21
    by_cases zl : tkE y n s - s = stL i
    · rw [if_pos (show nI (tkE y n s - s) = nI (stL i) by rw [zl]), decide_eq_true (show tkE y n s - s = sLen.getD (stN i) 0 from zl), Bool.true_and]
      have hloop : ∀ m k g, k + m = stL i → m < g → wdA y s (stN i) k = true → lX8_isWord_28 g 1 (SB + i) (nI k) (hp S J T) = some (bI (wdA y s (stN i) (stL i)), hp S J T) := by
        intro m
        induction m with
        | zero =>
          intro k g hk hg hw
          obtain ⟨g, rfl⟩ : ∃ x, g = x + 1 := ⟨g - 1, by omega⟩
          obtain rfl : k = stL i := by omega
          rw [hw]
          unfold lX8_isWord_28 fX8_isWord_28 fX8_isWord_30
          rw [c_len hi, Option.bind_some]
          unfold fX8_isWord_33
          rw [if_neg (nltn (Nat.lt_irrefl _) (by omega) (by omega))]
          simp only [fX8_isWord_63, kI_1, n1_0, n11, false_or, if_true, z1_z, ↓reduceIte, bI_t]
        | succ m ih =>
          intro k g hk hg hw
          obtain ⟨g, rfl⟩ : ∃ x, g = x + 1 := ⟨g - 1, by omega⟩
          have hkL : k < stL i := by omega
          have hlt := t4 (s + k) (by omega) (by omega)
          have hl2 := of_decide_eq_true hlt
          have eb : S 2 (s + k) = nI (y (s + k)) := by rw [(ht.2 (s + k) (by omega)).2, bv_n _ (by omega)]
          have eS : wdA y s (stN i) (k + 1) = decide (nI (y (s + k)) = stC i k) := by
            show (wdA y s (stN i) k && decide (nI (y (s + k)) = stC i k)) = _
            rw [hw, Bool.true_and]
          have h52 : lX8_isWord_28 (g + 1) 1 (SB + i) (nI k) (hp S J T) = fX8_isWord_52 (lX8_isWord_28 g) 1 (SB + i) (nI k) (stC i k) (nI (y (s + k))) (hp S J T) := by
            conv => lhs; unfold lX8_isWord_28
            unfold fX8_isWord_28 fX8_isWord_30
            rw [c_len hi, Option.bind_some]
            unfold fX8_isWord_33
            rw [if_pos (ltn hkL (by omega))]
            unfold fX8_isWord_36
            rw [rd_f3, Option.bind_some, rd_g10, Option.bind_some, h10, nI_add, rd_r3 (by omega), Option.bind_some, eb]
            unfold fX8_isWord_49
            rw [c_chr hi hkL, Option.bind_some]
          rw [h52]
          unfold fX8_isWord_52
          by_cases zc : nI (y (s + k)) = stC i k
          · rw [if_pos zc]
            unfold fX8_isWord_57
            rw [kI_1, nI_add]
            exact ih (k + 1) g (by omega) (by omega) (by rw [eS]; exact decide_eq_true zc)
          · have := wdA_f (y := y) (s := s) (q := stN i) (k := k + 1) (by rw [eS]; exact decide_eq_false zc) m
            rw [show k + 1 + m = stL i by omega] at this
            rw [if_neg zc, this]
            simp only [fX8_isWord_55, kI_0, n0_0, true_or, if_true, z0_z, ↓reduceIte, bI_f]
      unfold fX8_isWord_26
      rw [kI_0, eL]
      exact hloop (stL i) 0 FU (by omega) (FU_lt (by omega)) rfl
    · rw [if_neg (show ¬ nI (tkE y n s - s) = nI (stL i) by rw [eq_eq (by omega) (by omega)]; exact zl), decide_eq_false (show ¬ tkE y n s - s = sLen.getD (stN i) 0 from zl), Bool.false_and]
      exact hno
  · rw [if_neg (show ¬ nI (tkK y n s) = nI 2 by rw [eq_eq hK5 (by omega)]; exact z2), decide_eq_false z2, Bool.false_and]
    exact hno
end WD

-- THE TEXT: the reference's next
def tpM (S : Mem) (y : Nat → Nat) (n : Nat) : Prop := n ≤ 700 ∧ ∀ k, k < n → y k < 256 ∧ S 168 k = nI (y k)
def sV (y : Nat → Nat) (n k : Nat) : Int32 := if k < n then nI (y k) else m1
set_option maxRecDepth 100000 in
set_option maxHeartbeats 400000 in
theorem m1_97 : m1 < nI 97 := by decide
set_option maxRecDepth 100000 in
set_option maxHeartbeats 400000 in
theorem m1_48 : m1 < nI 48 := by decide
section TKM
variable {S : Mem} {J : MeJ} {T : Nat → Nat} {y : Nat → Nat} {n : Nat}
set_option maxRecDepth 100000 in
set_option maxHeartbeats 400000 in
theorem c_see {X : Row} {L : Row} (ht : tpM S y n) (h3 : X 3 = nI n) {k : Nat} (hk : k < 5000) : gX11_see 167 (nI k) (hp (stR (stR S 167 X) 169 L) J T) = some (sV y n k, hp (stR (stR S 167 X) 169 L) J T) := by
  have hn7 := ht.1
  unfold gX11_see fX11_see_0 sV
  rw [mo_g3, Option.bind_some, stR_ne (show 167 ≠ 169 by omega), stR_eq, h3]
  by_cases z : k < n
  · rw [if_pos (ltn z (by omega)), if_pos z]
    unfold fX11_see_8
    rw [mo_f1, Option.bind_some, mo_r1 (by omega), Option.bind_some, stR_ne (show 168 ≠ 169 by omega), stR_ne (show 168 ≠ 167 by omega), (ht.2 k z).2]
    rfl
  · rw [if_neg (nltn z hk (by omega)), if_neg z]
    unfold fX11_see_17
    rw [kI_n]
    rfl
set_option maxRecDepth 100000 in
set_option maxHeartbeats 400000 in
theorem c_small (ht : tpM S y n) {k : Nat} {h : aH} : gX11_isSmall (sV y n k) h = some (bI (decide (k < n) && ltB (y k)), h) := by
  have hno : fX11_isSmall_16 h = some (bI false, h) := by simp only [fX11_isSmall_16, fX11_isSmall_17, kI_0, n0_0, true_or, if_true, z0_z, ↓reduceIte, bI_f]
  have hye : fX11_isSmall_12 h = some (bI true, h) := by simp only [fX11_isSmall_12, fX11_isSmall_17, kI_1, n1_0, n11, false_or, if_true, z1_z, ↓reduceIte, bI_t]
  unfold gX11_isSmall fX11_isSmall_0 sV
  rw [kB_97]
  by_cases z : k < n
  · have hy := (ht.2 k z).1
    rw [if_pos z, decide_eq_true z, Bool.true_and]
    by_cases z1 : y k < 97
    · rw [if_pos (ltn z1 (by omega)), show ltB (y k) = false from decide_eq_false (by omega)]
      exact hno
    · rw [if_neg (nltn z1 (by omega) (by omega))]
      unfold fX11_isSmall_6
      rw [kB_122]
      by_cases z2 : 122 < y k
      · rw [if_pos (ltn z2 (by omega)), show ltB (y k) = false from decide_eq_false (by omega)]
        exact hno
      · rw [if_neg (nltn z2 (by omega) (by omega)), show ltB (y k) = true from decide_eq_true (by omega)]
        exact hye
  · rw [if_neg z, decide_eq_false z, Bool.false_and, if_pos m1_97]
    exact hno
set_option maxRecDepth 100000 in
set_option maxHeartbeats 400000 in
theorem c_mdig (ht : tpM S y n) {k : Nat} {h : aH} : gX11_isDigit (sV y n k) h = some (bI (decide (k < n) && dgB (y k)), h) := by
  have hno : fX11_isDigit_16 h = some (bI false, h) := by simp only [fX11_isDigit_16, fX11_isDigit_17, kI_0, n0_0, true_or, if_true, z0_z, ↓reduceIte, bI_f]
  have hye : fX11_isDigit_12 h = some (bI true, h) := by simp only [fX11_isDigit_12, fX11_isDigit_17, kI_1, n1_0, n11, false_or, if_true, z1_z, ↓reduceIte, bI_t]
  unfold gX11_isDigit fX11_isDigit_0 sV
  rw [kB_48]
  by_cases z : k < n
  · have hy := (ht.2 k z).1
    rw [if_pos z, decide_eq_true z, Bool.true_and]
    by_cases z1 : y k < 48
    · rw [if_pos (ltn z1 (by omega)), show dgB (y k) = false from decide_eq_false (by omega)]
      exact hno
    · rw [if_neg (nltn z1 (by omega) (by omega))]
      unfold fX11_isDigit_6
      rw [kB_57]
      by_cases z2 : 57 < y k
      · rw [if_pos (ltn z2 (by omega)), show dgB (y k) = false from decide_eq_false (by omega)]
        exact hno
      · rw [if_neg (nltn z2 (by omega) (by omega)), show dgB (y k) = true from decide_eq_true (by omega)]
        exact hye
  · rw [if_neg z, decide_eq_false z, Bool.false_and, if_pos m1_48]
    exact hno
set_option maxRecDepth 100000 in
set_option maxHeartbeats 400000 in
theorem sV_32 (ht : tpM S y n) {k : Nat} : sV y n k = nI 32 ↔ (k < n ∧ spB (y k) = true) := by
  unfold sV
  by_cases z : k < n
  · have hy := (ht.2 k z).1
    rw [if_pos z, eq_eq (by omega) (by omega)]
    exact ⟨fun q => ⟨z, decide_eq_true q⟩, fun q => of_decide_eq_true q.2⟩
  · rw [if_neg z]
    exact ⟨fun q => absurd q (by decide), fun q => absurd q.1 z⟩
set_option maxRecDepth 100000 in
set_option maxHeartbeats 400000 in
theorem l_n5 {X L : Row} (ht : tpM S y n) (h3 : X 3 = nI n) : ∀ m k g, n - k = m → m < g → k ≤ n → lX11_next_5 g 167 (nI k) (hp (stR (stR S 167 X) 169 L) J T) = fX11_next_21 167 (nI (rn (fun k => spB (y k)) n k)) (hp (stR (stR S 167 X) 169 L) J T) := by
  have hn7 := ht.1
  intro m
  induction m with
  | zero =>
    intro k g hm hg hk
    obtain ⟨g, rfl⟩ : ∃ x, g = x + 1 := ⟨g - 1, by omega⟩
    rw [rn_e (fun z => by omega)]
    unfold lX11_next_5 fX11_next_5 fX11_next_7
    rw [mo_isO, Option.bind_some, c_see ht h3 (by omega), Option.bind_some]
    unfold fX11_next_10
    rw [kB_32, if_neg (fun q => by have := ((sV_32 ht).mp q).1; omega)]
  | succ m ih =>
    intro k g hm hg hk
    obtain ⟨g, rfl⟩ : ∃ x, g = x + 1 := ⟨g - 1, by omega⟩
    have h10 : lX11_next_5 (g + 1) 167 (nI k) (hp (stR (stR S 167 X) 169 L) J T) = fX11_next_10 (lX11_next_5 g) 167 (nI k) (sV y n k) (hp (stR (stR S 167 X) 169 L) J T) := by
      conv => lhs; unfold lX11_next_5
      unfold fX11_next_5 fX11_next_7
      rw [mo_isO, Option.bind_some, c_see ht h3 (by omega), Option.bind_some]
    rw [h10]
    unfold fX11_next_10
    rw [kB_32]
    by_cases z : k < n ∧ spB (y k) = true
    · rw [rn_s z.1 z.2, ← ih (k + 1) g (by omega) (by omega) (by omega), if_pos ((sV_32 ht).mpr z)]
      unfold fX11_next_15
      rw [kI_1, nI_add]
    · rw [rn_e z, if_neg (fun q => z ((sV_32 ht).mp q))]
set_option maxRecDepth 100000 in
set_option maxHeartbeats 400000 in
theorem l_n67 (ht : tpM S y n) {s : Nat} : ∀ m k g X L, n - k = m → m < g → k ≤ n → s ≤ k → X 3 = nI n → X 8 = nI (k - s) → (∀ i, i < k - s → i < 8 → L i = nI (y (s + i))) → ∃ L' : Row, lX11_next_67 g 167 (nI k) (hp (stR (stR S 167 X) 169 L) J T) = fX11_next_117 167 (nI (rn (fun k => ltB (y k)) n k)) (hp (stR (stR S 167 (up X 8 (nI (rn (fun k => ltB (y k)) n k - s)))) 169 L') J T) ∧ (∀ i, i < rn (fun k => ltB (y k)) n k - s → i < 8 → L' i = nI (y (s + i))) := by
  have hn7 := ht.1
  intro m
  induction m with
  | zero =>
    intro k g X L hm hg hk hs h3 h8 hL
    obtain ⟨g, rfl⟩ : ∃ x, g = x + 1 := ⟨g - 1, by omega⟩
    rw [rn_e (fun z => by omega), up_pt h8]
    refine ⟨L, ?_, hL⟩
    unfold lX11_next_67 fX11_next_67 fX11_next_69
    rw [mo_isO, Option.bind_some, c_see ht h3 (by omega), Option.bind_some]
    unfold fX11_next_72
    rw [c_small ht, Option.bind_some, decide_eq_false (show ¬ k < n by omega), Bool.false_and]
    unfold fX11_next_75
    rw [if_pos (show bI false = 0 by decide)]
  | succ m ih =>
    intro k g X L hm hg hk hs h3 h8 hL
    obtain ⟨g, rfl⟩ : ∃ x, g = x + 1 := ⟨g - 1, by omega⟩
    have hkn : k < n := by omega
    have h75 : lX11_next_67 (g + 1) 167 (nI k) (hp (stR (stR S 167 X) 169 L) J T) = fX11_next_75 (lX11_next_67 g) 167 (nI k) (bI (ltB (y k))) (hp (stR (stR S 167 X) 169 L) J T) := by
      conv => lhs; unfold lX11_next_67
      unfold fX11_next_67 fX11_next_69
      rw [mo_isO, Option.bind_some, c_see ht h3 (by omega), Option.bind_some]
      unfold fX11_next_72
      rw [c_small ht, Option.bind_some, decide_eq_true hkn, Bool.true_and]
    rw [h75]
    unfold fX11_next_75
    cases z : ltB (y k) with
    | false =>
      rw [rn_e (fun q => by rw [z] at q; cases q.2), up_pt h8, if_pos (show bI false = 0 by decide)]
      exact ⟨L, rfl, hL⟩
    | true =>
      rw [if_neg (show ¬ bI true = 0 by decide), rn_s hkn z]
      have h101 : ∀ M : Row, fX11_next_101 (lX11_next_67 g) 167 (nI k) (hp (stR (stR S 167 X) 169 M) J T) = lX11_next_67 g 167 (nI (k + 1)) (hp (stR (stR S 167 (up X 8 (nI (k + 1 - s)))) 169 M) J T) := fun M => by
        unfold fX11_next_101
        rw [mo_g8, Option.bind_some, mo_p8, Option.bind_some, stS_R, stR_ne (show 167 ≠ 169 by omega), stR_eq, h8, kI_1, nI_add, nI_add, stR_sw (by omega), show k - s + 1 = k + 1 - s by omega]
      unfold fX11_next_78
      rw [mo_g8, Option.bind_some, stR_ne (show 167 ≠ 169 by omega), stR_eq, h8, kB_8]
      by_cases z8 : k - s < 8
      · rw [if_pos (ltn z8 (by omega))]
        unfold fX11_next_87
        rw [mo_f12, Option.bind_some, mo_g8, Option.bind_some, stR_ne (show 167 ≠ 169 by omega), stR_eq, h8]
        unfold fX11_next_97
        rw [mo_isO, Option.bind_some, c_see ht h3 (by omega), Option.bind_some]
        unfold fX11_next_100
        have ey : sV y n k = nI (y k) := if_pos hkn
        rw [mo_w12 z8, Option.bind_some, stS_R, stR_stR, stR_eq, ey, h101]
        obtain ⟨L', a1, a2⟩ := ih (k + 1) g (up X 8 (nI (k + 1 - s))) (up L (k - s) (nI (y k))) (by omega) (by omega) (by omega) (by omega) (by rw [up_ne (by omega)]; exact h3) up_eq (fun i h1 h2 => by
          by_cases e : i = k - s
          · rw [e, up_eq, show s + (k - s) = k by omega]
          · rw [up_ne e]; exact hL i (by omega) h2)
        rw [up_up] at a1
        exact ⟨L', a1, a2⟩
      · rw [if_neg (nltn z8 (by omega) (by omega)), h101]
        obtain ⟨L', a1, a2⟩ := ih (k + 1) g (up X 8 (nI (k + 1 - s))) L (by omega) (by omega) (by omega) (by omega) (by rw [up_ne (by omega)]; exact h3) up_eq (fun i h1 h2 => hL i (by omega) h2)
        rw [up_up] at a1
        exact ⟨L', a1, a2⟩
set_option maxRecDepth 100000 in
set_option maxHeartbeats 400000 in
theorem l_n152 {L : Row} (ht : tpM S y n) {s : Nat} : ∀ m k g X, n - k = m → m < g → k ≤ n → s ≤ k → X 3 = nI n → X 7 = nI (digs y s (min (k - s) 3)) → lX11_next_152 g 167 (nI k) (nI (k - s)) (hp (stR (stR S 167 X) 169 L) J T) = fX11_next_197 167 (nI (rn (fun k => dgB (y k)) n k)) (nI (rn (fun k => dgB (y k)) n k - s)) (hp (stR (stR S 167 (up X 7 (nI (digs y s (min (rn (fun k => dgB (y k)) n k - s) 3))))) 169 L) J T) := by
  have hn7 := ht.1
  intro m
  induction m with
  | zero =>
    intro k g X hm hg hk hs h3 h7
    obtain ⟨g, rfl⟩ : ∃ x, g = x + 1 := ⟨g - 1, by omega⟩
    rw [rn_e (fun z => by omega), up_pt h7]
    unfold lX11_next_152 fX11_next_152 fX11_next_154
    rw [mo_isO, Option.bind_some, c_see ht h3 (by omega), Option.bind_some]
    unfold fX11_next_157
    rw [c_mdig ht, Option.bind_some, decide_eq_false (show ¬ k < n by omega), Bool.false_and]
    unfold fX11_next_160
    rw [if_pos (show bI false = 0 by decide)]
  | succ m ih =>
    intro k g X hm hg hk hs h3 h7
    obtain ⟨g, rfl⟩ : ∃ x, g = x + 1 := ⟨g - 1, by omega⟩
    have hkn : k < n := by omega
    have h75 : lX11_next_152 (g + 1) 167 (nI k) (nI (k - s)) (hp (stR (stR S 167 X) 169 L) J T) = fX11_next_160 (lX11_next_152 g) 167 (nI k) (nI (k - s)) (bI (dgB (y k))) (hp (stR (stR S 167 X) 169 L) J T) := by
      conv => lhs; unfold lX11_next_152
      unfold fX11_next_152 fX11_next_154
      rw [mo_isO, Option.bind_some, c_see ht h3 (by omega), Option.bind_some]
      unfold fX11_next_157
      rw [c_mdig ht, Option.bind_some, decide_eq_true hkn, Bool.true_and]
    rw [h75]
    unfold fX11_next_160
    cases z : dgB (y k) with
    | false => rw [rn_e (fun q => by rw [z] at q; cases q.2), up_pt h7, if_pos (show bI false = 0 by decide)]
    | true =>
      have hdk := of_decide_eq_true z
      rw [if_neg (show ¬ bI true = 0 by decide), rn_s hkn z]
      unfold fX11_next_163
      rw [kI_3]
      by_cases z3 : k - s < 3
      · have es : digs y s (min (k + 1 - s) 3) = digs y s (k - s) * 10 + (y k - 48) := by
          rw [show min (k + 1 - s) 3 = (k - s) + 1 by omega]
          show digs y s (k - s) * 10 + (y (s + (k - s)) - 48) = _
          rw [show s + (k - s) = k by omega]
        have en : nI 10 * nI (digs y s (min (k - s) 3)) + nI (y k) - nI 48 = nI (digs y s (min (k + 1 - s) 3)) := by
          rw [es, show min (k - s) 3 = k - s by omega, show nI 10 * nI (digs y s (k - s)) = nI (10 * digs y s (k - s)) from pk_mul _ _, nI_add, nI_sub (by omega)]
          exact congrArg nI (by omega)
        have i := ih (k + 1) g (up X 7 (nI (digs y s (min (k + 1 - s) 3)))) (by omega) (by omega) (by omega) (by omega) (by rw [up_ne (by omega)]; exact h3) up_eq
        rw [up_up] at i
        rw [if_pos (ltn z3 (by omega)), ← i]
        unfold fX11_next_168
        rw [mo_g7, Option.bind_some, stR_ne (show 167 ≠ 169 by omega), stR_eq, h7, kB_10]
        unfold fX11_next_178
        have ey : sV y n k = nI (y k) := if_pos hkn
        rw [mo_isO, Option.bind_some, c_see ht h3 (by omega), Option.bind_some, ey]
        unfold fX11_next_181
        rw [kB_48, en, mo_p7, Option.bind_some, stS_R, stR_ne (show 167 ≠ 169 by omega), stR_eq, stR_sw (by omega)]
        unfold fX11_next_188
        rw [kI_1, nI_add, nI_add, show k - s + 1 = k + 1 - s by omega]
      · have i := ih (k + 1) g X (by omega) (by omega) (by omega) (by omega) h3 (by rw [h7, show min (k - s) 3 = 3 by omega, show min (k + 1 - s) 3 = 3 by omega])
        rw [if_neg (nltn z3 (by omega) (by omega)), ← i]
        unfold fX11_next_188
        rw [kI_1, nI_add, nI_add, show k - s + 1 = k + 1 - s by omega]
end TKM

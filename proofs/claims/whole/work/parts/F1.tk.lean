-- THE TEXT: the class runs over bytes
def tpC (S : Mem) (y : Nat → Nat) (n : Nat) : Prop := n ≤ 700 ∧ ∀ k, k < n → y k < 256 ∧ S 2 k = byv (y k)
section TKD
variable {S : Mem} {J : MeJ} {T : Nat → Nat} {y : Nat → Nat} {n : Nat}
set_option maxRecDepth 100000 in
set_option maxHeartbeats 400000 in
theorem ltn {a b : Nat} (h : a < b) (hb : b < 5000) : nI a < nI b := by rw [lt_eq (by omega) hb]; exact h
set_option maxRecDepth 100000 in
set_option maxHeartbeats 400000 in
theorem nltn {a b : Nat} (h : ¬ a < b) (ha : a < 5000) (hb : b < 5000) : ¬ nI a < nI b := by rw [lt_eq ha hb]; exact h
set_option maxRecDepth 100000 in
set_option maxHeartbeats 400000 in
theorem l_sp (ht : tpC S y n) : ∀ m k g X, n - k = m → m < g → k ≤ n → X 10 = nI k → X 9 = nI n → lX8_step_8 g 1 (hp (stR S 1 X) J T) = fX8_step_46 1 (hp (stR S 1 (up X 10 (nI (rn (fun k => spB (y k)) n k)))) J T) := by
  have hn7 := ht.1
  intro m
  induction m with
  | zero =>
    intro k g X hm hg hk h1 h2
    obtain ⟨g, rfl⟩ : ∃ x, g = x + 1 := ⟨g - 1, by omega⟩
    rw [rn_e (fun z => by omega), up_pt h1]
    unfold lX8_step_8 fX8_step_8
    rw [rd_g10, Option.bind_some, rd_g9, Option.bind_some, stR_eq, h1, h2, if_neg (nltn (by omega) (by omega) (by omega))]
  | succ m ih =>
    intro k g X hm hg hk h1 h2
    obtain ⟨g, rfl⟩ : ∃ x, g = x + 1 := ⟨g - 1, by omega⟩
    have hkn : k < n := by omega
    obtain ⟨hy, hb⟩ := ht.2 k hkn
    have h32 := bv_32 (y k) hy
    have h19 : lX8_step_8 (g + 1) 1 (hp (stR S 1 X) J T) = fX8_step_19 (lX8_step_8 g) 1 (hp (stR S 1 X) J T) := by
      conv => lhs; unfold lX8_step_8
      unfold fX8_step_8
      rw [rd_g10, Option.bind_some, rd_g9, Option.bind_some, stR_eq, h1, h2, if_pos (ltn hkn (by omega))]
    rw [h19]
    unfold fX8_step_19
    rw [rd_f3, Option.bind_some, rd_g10, Option.bind_some, stR_eq, h1, rd_r3 (by omega), Option.bind_some, stR_ne (show 2 ≠ 1 by omega), hb, kB_32]
    by_cases z : y k = 32
    · have i := ih (k + 1) g (up X 10 (nI (k + 1))) (by omega) (by omega) (by omega) up_eq (by rw [up_ne (by omega)]; exact h2)
      rw [up_up] at i
      rw [rn_s hkn (show spB (y k) = true from decide_eq_true z), ← i, if_pos (h32.mpr z)]
      unfold fX8_step_33
      rw [rd_g10, Option.bind_some, rd_p10, Option.bind_some, stS_R, stR_stR, stR_eq, h1, kI_1, nI_add]
    · rw [rn_e (fun q => z (of_decide_eq_true q.2)), up_pt h1, if_neg (fun q => z (h32.mp q))]
set_option maxRecDepth 100000 in
set_option maxHeartbeats 400000 in
theorem l_tw (ht : tpC S y n) : ∀ m k g X, n - k = m → m < g → k ≤ n → X 11 = nI k → X 9 = nI n → lX8_takeWord_0 g 1 (hp (stR S 1 X) J T) = fX8_takeWord_39 1 (hp (stR S 1 (up X 11 (nI (rn (fun k => ltB (y k)) n k)))) J T) := by
  have hn7 := ht.1
  intro m
  induction m with
  | zero =>
    intro k g X hm hg hk h1 h2
    obtain ⟨g, rfl⟩ : ∃ x, g = x + 1 := ⟨g - 1, by omega⟩
    rw [rn_e (fun z => by omega), up_pt h1]
    unfold lX8_takeWord_0 fX8_takeWord_0
    rw [rd_g11, Option.bind_some, rd_g9, Option.bind_some, stR_eq, h1, h2, if_neg (nltn (by omega) (by omega) (by omega))]
  | succ m ih =>
    intro k g X hm hg hk h1 h2
    obtain ⟨g, rfl⟩ : ∃ x, g = x + 1 := ⟨g - 1, by omega⟩
    have hkn : k < n := by omega
    obtain ⟨hy, hb⟩ := ht.2 k hkn
    have h19 : lX8_takeWord_0 (g + 1) 1 (hp (stR S 1 X) J T) = fX8_takeWord_11 (lX8_takeWord_0 g) 1 (hp (stR S 1 X) J T) := by
      conv => lhs; unfold lX8_takeWord_0
      unfold fX8_takeWord_0
      rw [rd_g11, Option.bind_some, rd_g9, Option.bind_some, stR_eq, h1, h2, if_pos (ltn hkn (by omega))]
    rw [h19]
    unfold fX8_takeWord_11
    rw [rd_f3, Option.bind_some, rd_g11, Option.bind_some, stR_eq, h1, rd_r3 (by omega), Option.bind_some, stR_ne (show 2 ≠ 1 by omega), hb]
    unfold fX8_takeWord_20
    rw [c_isLet hy, Option.bind_some]
    unfold fX8_takeWord_23
    cases z : ltB (y k) with
    | true =>
      have i := ih (k + 1) g (up X 11 (nI (k + 1))) (by omega) (by omega) (by omega) up_eq (by rw [up_ne (by omega)]; exact h2)
      rw [up_up] at i
      rw [rn_s hkn z, ← i, if_neg (show ¬ bI true = 0 by decide)]
      unfold fX8_takeWord_26
      rw [rd_g11, Option.bind_some, rd_p11, Option.bind_some, stS_R, stR_stR, stR_eq, h1, kI_1, nI_add]
    | false => rw [rn_e (fun q => by rw [z] at q; cases q.2), up_pt h1, if_pos (show bI false = 0 by decide)]
set_option maxRecDepth 100000 in
set_option maxHeartbeats 400000 in
theorem l_th (ht : tpC S y n) : ∀ m k g X, n - k = m → m < g → k ≤ n → X 11 = nI k → X 9 = nI n → lX8_takeWhole_0 g 1 (hp (stR S 1 X) J T) = fX8_takeWhole_39 1 (hp (stR S 1 (up X 11 (nI (rn (fun k => dgB (y k)) n k)))) J T) := by
  have hn7 := ht.1
  intro m
  induction m with
  | zero =>
    intro k g X hm hg hk h1 h2
    obtain ⟨g, rfl⟩ : ∃ x, g = x + 1 := ⟨g - 1, by omega⟩
    rw [rn_e (fun z => by omega), up_pt h1]
    unfold lX8_takeWhole_0 fX8_takeWhole_0
    rw [rd_g11, Option.bind_some, rd_g9, Option.bind_some, stR_eq, h1, h2, if_neg (nltn (by omega) (by omega) (by omega))]
  | succ m ih =>
    intro k g X hm hg hk h1 h2
    obtain ⟨g, rfl⟩ : ∃ x, g = x + 1 := ⟨g - 1, by omega⟩
    have hkn : k < n := by omega
    obtain ⟨hy, hb⟩ := ht.2 k hkn
    have h19 : lX8_takeWhole_0 (g + 1) 1 (hp (stR S 1 X) J T) = fX8_takeWhole_11 (lX8_takeWhole_0 g) 1 (hp (stR S 1 X) J T) := by
      conv => lhs; unfold lX8_takeWhole_0
      unfold fX8_takeWhole_0
      rw [rd_g11, Option.bind_some, rd_g9, Option.bind_some, stR_eq, h1, h2, if_pos (ltn hkn (by omega))]
    rw [h19]
    unfold fX8_takeWhole_11
    rw [rd_f3, Option.bind_some, rd_g11, Option.bind_some, stR_eq, h1, rd_r3 (by omega), Option.bind_some, stR_ne (show 2 ≠ 1 by omega), hb]
    unfold fX8_takeWhole_20
    rw [c_isDig hy, Option.bind_some]
    unfold fX8_takeWhole_23
    cases z : dgB (y k) with
    | true =>
      have i := ih (k + 1) g (up X 11 (nI (k + 1))) (by omega) (by omega) (by omega) up_eq (by rw [up_ne (by omega)]; exact h2)
      rw [up_up] at i
      rw [rn_s hkn z, ← i, if_neg (show ¬ bI true = 0 by decide)]
      unfold fX8_takeWhole_26
      rw [rd_g11, Option.bind_some, rd_p11, Option.bind_some, stS_R, stR_stR, stR_eq, h1, kI_1, nI_add]
    | false => rw [rn_e (fun q => by rw [z] at q; cases q.2), up_pt h1, if_pos (show bI false = 0 by decide)]
-- a whole's number
set_option maxRecDepth 100000 in
set_option maxHeartbeats 400000 in
theorem l_tv (ht : tpC S y n) {s e : Nat} (he : e ≤ n) (he3 : e - s ≤ 3) (hd : ∀ i, s ≤ i → i < e → dgB (y i) = true) : ∀ m k g X, k + m = e → s ≤ k → m < g → X 11 = nI e → X 12 = nI 3 → X 13 = nI (digs y s (k - s)) → lX8_takeWhole_71 g 1 (nI k) (hp (stR S 1 X) J T) = some (hp (stR S 1 (up X 13 (nI (digs y s (e - s))))) J T) := by
  have hn7 := ht.1
  intro m
  induction m with
  | zero =>
    intro k g X hm hk hg h1 h2 h3
    obtain ⟨g, rfl⟩ : ∃ x, g = x + 1 := ⟨g - 1, by omega⟩
    obtain rfl : k = e := by omega
    rw [up_pt h3]
    unfold lX8_takeWhole_71 fX8_takeWhole_71
    rw [rd_g11, Option.bind_some, stR_eq, h1, if_neg (nltn (by omega) (by omega) (by omega))]
    rfl
  | succ m ih =>
    intro k g X hm hk hg h1 h2 h3
    obtain ⟨g, rfl⟩ : ∃ x, g = x + 1 := ⟨g - 1, by omega⟩
    have hke : k < e := by omega
    obtain ⟨hy, hb⟩ := ht.2 k (by omega)
    have hdk := of_decide_eq_true (hd k hk hke)
    have eb : byv (y k) = nI (y k) := bv_n (y k) (by omega)
    have es : digs y s (k + 1 - s) = digs y s (k - s) * 10 + (y k - 48) := by
      rw [show k + 1 - s = (k - s) + 1 by omega]
      show digs y s (k - s) * 10 + (y (s + (k - s)) - 48) = _
      rw [show s + (k - s) = k by omega]
    have en : nI (digs y s (k - s)) * nI 10 + nI (y k) - nI 48 = nI (digs y s (k + 1 - s)) := by
      rw [es, show nI (digs y s (k - s)) * nI 10 = nI (digs y s (k - s) * 10) from pk_mul _ _, nI_add, nI_sub (by omega)]
      exact congrArg nI (by omega)
    have i := ih (k + 1) g (up X 13 (nI (digs y s (k + 1 - s)))) (by omega) (by omega) (by omega) (by rw [up_ne (by omega)]; exact h1) (by rw [up_ne (by omega)]; exact h2) up_eq
    rw [up_up] at i
    rw [← i]
    conv => lhs; unfold lX8_takeWhole_71
    unfold fX8_takeWhole_71
    rw [rd_g11, Option.bind_some, stR_eq, h1, if_pos (ltn hke (by omega))]
    unfold fX8_takeWhole_79
    rw [rd_g12, Option.bind_some, stR_eq, h2, kI_3, if_pos rfl]
    unfold fX8_takeWhole_87
    rw [rd_g13, Option.bind_some, rd_f3, Option.bind_some, rd_r3 (by omega), Option.bind_some, stR_eq, stR_ne (show 2 ≠ 1 by omega), hb, eb, h3, kB_10, kB_48, en, rd_p13, Option.bind_some, stS_R, stR_stR, stR_eq, kI_1, nI_add]
end TKD

-- TWO TABLES, BOTH
set_option maxRecDepth 100000 in
set_option maxHeartbeats 400000 in
theorem my_5 : ∀ l, l < 32 → my l l = true := by decide
set_option maxRecDepth 100000 in
set_option maxHeartbeats 400000 in
theorem my_6 : my 0 0 = true := by decide
set_option maxRecDepth 100000 in
set_option maxHeartbeats 400000 in
theorem ag_tW {r q R Q : Row} {P N F : Nat} (hr : agT r q P N F) (h : agR R Q P N) (l : Nat) : tW r R P N l = tW q Q P N l := by
  funext p
  unfold tW
  rw [ag_wv hr h, ag_wv hr h]
set_option maxRecDepth 100000 in
set_option maxHeartbeats 400000 in
theorem ag_tB {r q R Q : Row} {P N F : Nat} (hr : agT r q P N F) (h : agR R Q P N) (l k : Nat) : tB r R P N l k = tB q Q P N l k := by
  unfold tB
  rw [ag_tW hr h]
set_option maxRecDepth 100000 in
set_option maxHeartbeats 400000 in
theorem tB_yes {r R : Row} {P N l : Nat} (hl : l < 32) : ∃ k, tB r R P N l 0 = some k ∧ k ≤ l ∧ my l k = true := by
  have q := am_AM (σ := fun i => (tW r R P N l i).toInt) (lt := fun b p => decide (tW r R P N l b < tW r R P N l p)) (l := my l) (fun i j => lt_toI _ _) (l + 1)
  have e : tB r R P N l 0 = am (fun b p => decide (tW r R P N l b < tW r R P N l p)) (my l) (l + 1) 0 none := rfl
  rw [← e] at q
  cases hc : tB r R P N l 0 with
  | none =>
    rw [hc] at q
    have := q l (by omega)
    rw [my_5 l hl] at this
    cases this
  | some k =>
    rw [hc] at q
    exact ⟨k, rfl, by have := q.1; omega, q.2.1⟩
set_option maxRecDepth 100000 in
set_option maxHeartbeats 400000 in
theorem wv_0 {r R : Row} {P N : Nat} : wv r R P N (nI 0) = nI 0 := by
  have hb : ∀ k, bt (nI 0) k = false := fun k => by
    show (BitVec.ofInt 32 0).getLsbD k = false
    exact BitVec.getLsbD_zero
  have e : ∀ n k, am (fun j k => decide (sh r R j < sh r R k)) (bt (nI 0)) n k none = none := by
    intro n
    induction n with
    | zero => intro k; rfl
    | succ n ih =>
      intro k
      show am _ _ n (k + 1) (ams _ (bt (nI 0)) k none) = none
      rw [ams_f (hb k)]
      exact ih (k + 1)
  unfold wv ms
  rw [e]
section Q16
variable {S S1 M : Mem} {J : MeJ} {T : Nat → Nat} {t a w P N F U E D : Nat} {ht : Bool}
set_option maxRecDepth 100000 in
set_option maxHeartbeats 400000 in
theorem s_tab {r R B : Row} (hr : M 170 = r) (hR : ∀ k, k < 8 → M 174 (14 + k) = R (14 + k)) (hg : M 175 = grR r R P) (hP : r 3 = nI P) (hP5 : P ≤ 5) (hN : r 4 = nI N) (hN8 : N ≤ 8) (hL : Lst r N) (hs : ∀ k, k < P → ∃ n, n < 20000 ∧ sh r R k = nI n) {l p : Nat} (hl32 : l < 32) (hl0 : 0 < l) (hpl : p < l + 1) (hlv : ∀ k, k < P → bt (nI l) k = true → lv R k = true) {b : Option Nat} (hb : ∀ j, b = some j → j < p) (K : Nat → Int32 → Int32 → Int32 → Int32 → aH → Option (Int32 × aH)) : fX11_tablesOf_43 K 167 (nI l) (oi b) (nI l &&& -nI l) (nI p) (hp (stR M 167 (up B 35 (oW (tW r R P N l) (nI 0) b))) J T) = K 167 (nI l) (oi (ams (fun b p => decide (tW r R P N l b < tW r R P N l p)) (my l) p b)) (nI l &&& -nI l) (nI (p + 1)) (hp (stR M 167 (up B 35 (oW (tW r R P N l) (nI 0) (ams (fun b p => decide (tW r R P N l b < tW r R P N l p)) (my l) p b)))) J T) := by
  by_cases h1 : nI p &&& (nI l ^^^ m1) = 0
  · by_cases h2 : nI p &&& (nI l &&& -nI l) = (nI l &&& -nI l)
    · have hm : my l p = true := by unfold my; rw [decide_eq_true h1, decide_eq_true h2]; rfl
      have h3 : (nI p &&& (nI l &&& -nI l) = 0) = False := eq_false (fun z => (my_3 l hl32 hl0 p (by omega)).mp z h2)
      have e1 := my_2 l hl32 p (by omega) h1
      have c1 : ∀ X, gX11_worthOf 167 (nI p) (hp (stR M 167 X) J T) = some (wv r R P N (nI p), hp (stR M 167 X) J T) := fun X => c_worthM (S := stR M 167 X) (by rw [stR_ne (by omega)]; exact hr) (fun k hk => by rw [stR_ne (by omega)]; exact hR k hk) (by rw [stR_ne (by omega)]; exact hg) hP hP5 hN hN8 hL hs (fun k hk z => hlv k hk (by rw [← e1, b_and, Bool.and_eq_true] at z; exact z.1))
      have c2 : ∀ X, gX11_worthOf 167 (nI l &&& (nI p ^^^ m1)) (hp (stR M 167 X) J T) = some (wv r R P N (nI l &&& (nI p ^^^ m1)), hp (stR M 167 X) J T) := fun X => c_worthM (S := stR M 167 X) (by rw [stR_ne (by omega)]; exact hr) (fun k hk => by rw [stR_ne (by omega)]; exact hR k hk) (by rw [stR_ne (by omega)]; exact hg) hP hP5 hN hN8 hL hs (fun k hk z => hlv k hk (by rw [b_and, Bool.and_eq_true] at z; exact z.1))
      have ew : wv r R P N (nI p) + wv r R P N (nI l &&& (nI p ^^^ m1)) = tW r R P N l p := rfl
      cases b with
      | none =>
        rw [ams_n hm]
        simp (disch := omega) only [gX11_tablesOf, fX11_tablesOf_0, fX11_tablesOf_1, fX11_tablesOf_4, fX11_tablesOf_5, fX11_tablesOf_8, fX11_tablesOf_30, fX11_tablesOf_32, fX11_tablesOf_43, fX11_tablesOf_49, fX11_tablesOf_58, fX11_tablesOf_65, fX11_tablesOf_68, fX11_tablesOf_71, fX11_tablesOf_74, fX11_tablesOf_81, fX11_tablesOf_84, fX11_tablesOf_91, fX11_tablesOf_100, fX11_tablesOf_103, fX11_tablesOf_112, fX11_tablesOf_118, mo_isO, mo_f19, mo_r19, kB_10, kI_n, kI_0, mo_p35, kB_o, kI_1, mo_g35, Option.bind_some, n35, n9, n19, n51, n59, nI_add, ix2, ix8, ix22, ix5, ↓reduceIte, stS_R, stR_stR, stR_eq, up_up0, lt_eq, show ¬ l < p by omega, h1, h3, c1, c2, ew, on_lt, oi_some, oW]
      | some j =>
        have hj := hb j rfl
        by_cases h4 : tW r R P N l j < tW r R P N l p
        · rw [ams_t hm (decide_eq_true h4)]
          simp (disch := omega) only [gX11_tablesOf, fX11_tablesOf_0, fX11_tablesOf_1, fX11_tablesOf_4, fX11_tablesOf_5, fX11_tablesOf_8, fX11_tablesOf_30, fX11_tablesOf_32, fX11_tablesOf_43, fX11_tablesOf_49, fX11_tablesOf_58, fX11_tablesOf_65, fX11_tablesOf_68, fX11_tablesOf_71, fX11_tablesOf_74, fX11_tablesOf_81, fX11_tablesOf_84, fX11_tablesOf_91, fX11_tablesOf_100, fX11_tablesOf_103, fX11_tablesOf_112, fX11_tablesOf_118, mo_isO, mo_f19, mo_r19, kB_10, kI_n, kI_0, mo_p35, kB_o, kI_1, mo_g35, Option.bind_some, n35, n9, n19, n51, n59, nI_add, ix2, ix8, ix22, ix5, ↓reduceIte, stS_R, stR_stR, stR_eq, up_up0, up_eq, lt_eq, show ¬ l < p by omega, h1, h3, c1, c2, ew, oi_some, nI_lt0, oW, h4]
        · rw [ams_e hm (decide_eq_false h4)]
          simp (disch := omega) only [gX11_tablesOf, fX11_tablesOf_0, fX11_tablesOf_1, fX11_tablesOf_4, fX11_tablesOf_5, fX11_tablesOf_8, fX11_tablesOf_30, fX11_tablesOf_32, fX11_tablesOf_43, fX11_tablesOf_49, fX11_tablesOf_58, fX11_tablesOf_65, fX11_tablesOf_68, fX11_tablesOf_71, fX11_tablesOf_74, fX11_tablesOf_81, fX11_tablesOf_84, fX11_tablesOf_91, fX11_tablesOf_100, fX11_tablesOf_103, fX11_tablesOf_112, fX11_tablesOf_118, mo_isO, mo_f19, mo_r19, kB_10, kI_n, kI_0, mo_p35, kB_o, kI_1, mo_g35, Option.bind_some, n35, n9, n19, n51, n59, nI_add, ix2, ix8, ix22, ix5, ↓reduceIte, stS_R, stR_stR, stR_eq, up_up0, up_eq, lt_eq, show ¬ l < p by omega, h1, h3, c1, c2, ew, oi_some, nI_lt0, oW, h4]
    · have h3 : (nI p &&& (nI l &&& -nI l) = 0) = True := eq_true ((my_3 l hl32 hl0 p (by omega)).mpr h2)
      rw [ams_f (by unfold my; rw [decide_eq_false h2, Bool.and_false])]
      simp (disch := omega) only [gX11_tablesOf, fX11_tablesOf_0, fX11_tablesOf_1, fX11_tablesOf_4, fX11_tablesOf_5, fX11_tablesOf_8, fX11_tablesOf_30, fX11_tablesOf_32, fX11_tablesOf_43, fX11_tablesOf_49, fX11_tablesOf_58, fX11_tablesOf_65, fX11_tablesOf_68, fX11_tablesOf_71, fX11_tablesOf_74, fX11_tablesOf_81, fX11_tablesOf_84, fX11_tablesOf_91, fX11_tablesOf_100, fX11_tablesOf_103, fX11_tablesOf_112, fX11_tablesOf_118, mo_isO, mo_f19, mo_r19, kB_10, kI_n, kI_0, mo_p35, kB_o, kI_1, mo_g35, Option.bind_some, n35, n9, n19, n51, n59, nI_add, ix2, ix8, ix22, ix5, ↓reduceIte, lt_eq, show ¬ l < p by omega, h1, h3]
  · rw [ams_f (by unfold my; rw [decide_eq_false h1, Bool.false_and])]
    simp (disch := omega) only [gX11_tablesOf, fX11_tablesOf_0, fX11_tablesOf_1, fX11_tablesOf_4, fX11_tablesOf_5, fX11_tablesOf_8, fX11_tablesOf_30, fX11_tablesOf_32, fX11_tablesOf_43, fX11_tablesOf_49, fX11_tablesOf_58, fX11_tablesOf_65, fX11_tablesOf_68, fX11_tablesOf_71, fX11_tablesOf_74, fX11_tablesOf_81, fX11_tablesOf_84, fX11_tablesOf_91, fX11_tablesOf_100, fX11_tablesOf_103, fX11_tablesOf_112, fX11_tablesOf_118, mo_isO, mo_f19, mo_r19, kB_10, kI_n, kI_0, mo_p35, kB_o, kI_1, mo_g35, Option.bind_some, n35, n9, n19, n51, n59, nI_add, ix2, ix8, ix22, ix5, ↓reduceIte, lt_eq, show ¬ l < p by omega, h1]
set_option maxRecDepth 100000 in
set_option maxHeartbeats 400000 in
theorem c_tablesOf {r R : Row} (hr : S 170 = r) (hR : cpR (S 174) (S 175) 22 = R) (hP : r 3 = nI P) (hP5 : P ≤ 5) (hN : r 4 = nI N) (hN8 : N ≤ 8) (hL : Lst r N) (hs : ∀ k, k < P → ∃ n, n < 20000 ∧ sh r R k = nI n) {l : Nat} (hl32 : l < 32) (hl : ((nI 1 <<< (nI P &&& 31)) - nI 1) &&& (S 174 10 ^^^ m1) = nI l) (hlv : ∀ k, k < P → bt (nI l) k = true → lv R k = true) : gX11_tablesOf 167 (hp S J T) = some (if l = 0 then nI 0 else oi (tB r R P N l 1), hp (stR (stR S 175 (grR r R P)) 167 (up (S 167) 35 (if l = 0 then nI 0 else oW (tW r R P N l) (nI 0) (tB r R P N l 1)))) J T) := by
  subst hr
  have hd := c_dawn (S := S) (J := J) (T := T) hP hP5
  rw [hR] at hd
  by_cases h0 : l = 0
  · subst h0
    rw [if_pos rfl, if_pos rfl]
    simp (disch := omega) only [gX11_tablesOf, fX11_tablesOf_0, fX11_tablesOf_1, fX11_tablesOf_4, fX11_tablesOf_5, fX11_tablesOf_8, fX11_tablesOf_30, mo_isO, Option.bind_some, hd, c_everybody, stR_ne, hP, mo_f19, mo_r19, kB_10, mo_p35, kI_0, kI_n, hl, n0_0, ↓reduceIte, stS_R]
  · rw [if_neg h0, if_neg h0]
    have hz : (nI l = 0) = False := eq_false (fun z => h0 (by rwa [nI_z (by omega)] at z))
    have hb12 : ∀ k, k < 8 → stR S 175 (grR (S 170) R P) 174 (14 + k) = R (14 + k) := fun k hk => by
      rw [stR_ne (by omega), ← hR]
      exact (if_pos (by omega)).symm
    have e := for_loop lX11_tablesOf_43 fX11_tablesOf_43 (fun _ => rfl) (fun K k b => K 167 (nI l) (oi b) (nI l &&& -nI l) (nI k) (hp (stR (stR S 175 (grR (S 170) R P)) 167 (up (S 167) 35 (oW (tW (S 170) R P N l) (nI 0) b))) J T)) (fun k b => ∀ j, b = some j → j < k) (l + 1) (ams (fun b p => decide (tW (S 170) R P N l b < tW (S 170) R P N l p)) (my l)) (fun b => some (oi b, hp (stR (stR S 175 (grR (S 170) R P)) 167 (up (S 167) 35 (oW (tW (S 170) R P N l) (nI 0) b))) J T)) (fun K k b hk hb => s_tab (M := stR S 175 (grR (S 170) R P)) (by rw [stR_ne (by omega)]) hb12 stR_eq hP hP5 hN hN8 hL hs hl32 (by omega) hk hlv hb K) (fun k b hk hb => ams_lt hb) (fun K b _ => ?_) (l + 1 - 1) 1 FU none (by omega) (FU_lt (by omega)) (fun j hj => by cases hj)
    · refine Eq.trans ?_ e
      simp (disch := omega) only [gX11_tablesOf, fX11_tablesOf_0, fX11_tablesOf_1, fX11_tablesOf_4, fX11_tablesOf_5, fX11_tablesOf_8, fX11_tablesOf_32, mo_isO, Option.bind_some, hd, c_everybody, stR_ne, hP, mo_f19, mo_r19, kB_10, mo_p35, kI_0, kI_1, kI_n, kB_o, hl, hz, ↓reduceIte, stS_R, oW]
    · simp (disch := omega) only [gX11_tablesOf, fX11_tablesOf_0, fX11_tablesOf_1, fX11_tablesOf_4, fX11_tablesOf_5, fX11_tablesOf_8, fX11_tablesOf_30, fX11_tablesOf_32, fX11_tablesOf_43, fX11_tablesOf_49, fX11_tablesOf_58, fX11_tablesOf_65, fX11_tablesOf_68, fX11_tablesOf_71, fX11_tablesOf_74, fX11_tablesOf_81, fX11_tablesOf_84, fX11_tablesOf_91, fX11_tablesOf_100, fX11_tablesOf_103, fX11_tablesOf_112, fX11_tablesOf_118, mo_isO, mo_f19, mo_r19, kB_10, kI_n, kI_0, mo_p35, kB_o, kI_1, mo_g35, Option.bind_some, n35, n9, n19, n51, n59, nI_add, ix2, ix8, ix22, ix5, ↓reduceIte, lt_eq, show l < l + 1 by omega]
end Q16

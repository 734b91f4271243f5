-- WHO SHOULD FAST: the class looks a day on
def fSt (X : Row) (B : Option Nat) : Prop := match B with
  | none => X 0 = nI 1000 ∧ X 1 = nI 0
  | some j => X 0 = nI (pc j) ∧ X 1 = nI j
def btB (k : Nat) (B : Option Nat) : Bool := match B with
  | none => true
  | some j => decide (key k < key j)
set_option maxRecDepth 100000 in
set_option maxHeartbeats 400000 in
theorem btB_t {k : Nat} {B : Option Nat} (h : btB k B = true) : btO k B := by
  cases B with
  | none => trivial
  | some j => exact of_decide_eq_true (p := key k < key j) h
set_option maxRecDepth 100000 in
set_option maxHeartbeats 400000 in
theorem btB_f {k : Nat} {B : Option Nat} (h : btB k B = false) : ∃ j, B = some j ∧ key j ≤ key k := by
  cases B with
  | none => cases h
  | some j => exact ⟨j, rfl, by have := of_decide_eq_false h; omega⟩
set_option maxRecDepth 100000 in
set_option maxHeartbeats 400000 in
theorem plA_f : ∀ d, d < 4 → plA (22 + 4 * d)
  | 0, _ => plA_22
  | 1, _ => plA_26
  | 2, _ => plA_30
  | 3, _ => plA_34
  | n + 4, h => absurd h (by omega)
set_option maxRecDepth 100000 in
set_option maxHeartbeats 400000 in
theorem en_ag {r q R Q : Row} {P N F : Nat} (hr : agT r q P N F) (h : agR R Q P N) : ∀ k, k ≤ P → enN r R k = enN q Q k := by
  intro k
  induction k with
  | zero => intro _; rfl
  | succ k ih =>
    intro hk
    show enN r R k ||| (if lv R k = true ∧ r 1 < R k + r (10 + 2 * k) then nI 1 <<< (nI k &&& 31) else nI 0) = enN q Q k ||| (if lv Q k = true ∧ q 1 < Q k + q (10 + 2 * k) then nI 1 <<< (nI k &&& 31) else nI 0)
    rw [ih (by omega), ag_lv h, hr.1 1 (by omega), (h.1 k (by omega)).1, (hr.2.1 k (by omega)).2]
section SE
variable {S : Mem} {J : MeJ} {T : Nat → Nat} {t a P N F U E : Nat}
set_option maxRecDepth 100000 in
set_option maxHeartbeats 400000 in
theorem c_betO {k : Nat} (hk : k < 32768) {B : Option Nat} (hB : ∀ j, B = some j → j < 32768) (h : fSt (S 17) B) : gX2_isBetter 17 (nI k) (hp S J T) = some (bI (btB k B), hp S J T) := by
  have hp := pc_le k
  cases B with
  | none =>
    have q := c_better (S := S) (J := J) (T := T) (k := k) hk (c := 1000) (b := 0) (by omega) (by omega) h.1 h.2
    rw [decide_eq_true (show pc k < 1000 by omega), Bool.true_or] at q
    exact q
  | some j =>
    have hj := hB j rfl
    have hpj := pc_le j
    have q := c_better (S := S) (J := J) (T := T) (k := k) hk (c := pc j) (b := j) (by omega) hj h.1 h.2
    rw [q]
    have e : (decide (pc k < pc j) || (decide (pc k = pc j) && decide (k < j))) = btB k (some j) := by
      show _ = decide (key k < key j)
      have hk2 := key_lt hk hj
      by_cases z : key k < key j
      · rw [decide_eq_true z]
        rcases hk2.mp z with y | y
        · rw [decide_eq_true y, Bool.true_or]
        · rw [decide_eq_true y.1, decide_eq_true y.2, Bool.true_and, Bool.or_true]
      · rw [decide_eq_false z]
        have z2 : ¬ (pc k < pc j ∨ pc k = pc j ∧ k < j) := fun y => z (hk2.mpr y)
        rw [decide_eq_false (fun y => z2 (Or.inl y)), Bool.false_or]
        by_cases y : pc k = pc j
        · rw [decide_eq_false (fun x => z2 (Or.inr ⟨y, x⟩)), Bool.and_false]
        · rw [decide_eq_false y, Bool.false_and]
    rw [e]
set_option maxRecDepth 100000 in
set_option maxHeartbeats 400000 in
theorem c_endang (ha : plA a) (htl : tlA t) (hP : S t 3 = nI P) (hP5 : P ≤ 5) : gX7_endangered a t (hp S J T) = some (enN (S t) (S a) P, hp S J T) := by
  unfold gX7_endangered fX7_endangered_0
  rw [kI_0]
  refine for_at lX7_endangered_4 fX7_endangered_4 (fun _ => rfl) (fun K k x => K a t x (nI k) (hp S J T)) P (enN (S t) (S a)) _ (fun K k hk => ?_) (fun K => ?_) (FU_lt (by omega))
  · show _ = K a t (enN (S t) (S a) k ||| (if lv (S a) k = true ∧ S t 1 < S a k + S t (10 + 2 * k) then nI 1 <<< (nI k &&& 31) else nI 0)) (nI (k + 1)) (hp S J T)
    cases hd : bt (S a 10) k with
    | true =>
      rw [if_neg (fun z => by have := z.1; unfold lv at this; rw [hd] at this; cases this)]
      simp (disch := omega) only [gX7_endangered, fX7_endangered_0, fX7_endangered_4, fX7_endangered_12, fX7_endangered_15, fX7_endangered_18, fX7_endangered_21, fX7_endangered_41, fX7_endangered_47, fX7_endangered_48, fX7_endangered_56, kI_0, tl_g3 htl, pl_isO ha, pl_f0 ha, pl_r0 ha, tl_f9 htl, tl_r9 htl, tl_g1 htl, kI_1, Option.bind_some, n35, n9, n19, n51, n59, nI_add, ix2, ix8, ix22, ix5, ↓reduceIte, hP, lt_eq, hk, c_isDead ha, hd, bI_t, n1_0]
    | false =>
      have hl : lv (S a) k = true := by unfold lv; rw [hd]; rfl
      by_cases hc : S t 1 < S a k + S t (10 + 2 * k)
      · rw [if_pos ⟨hl, hc⟩]
        simp (disch := omega) only [gX7_endangered, fX7_endangered_0, fX7_endangered_4, fX7_endangered_12, fX7_endangered_15, fX7_endangered_18, fX7_endangered_21, fX7_endangered_41, fX7_endangered_47, fX7_endangered_48, fX7_endangered_56, kI_0, tl_g3 htl, pl_isO ha, pl_f0 ha, pl_r0 ha, tl_f9 htl, tl_r9 htl, tl_g1 htl, kI_1, Option.bind_some, n35, n9, n19, n51, n59, nI_add, ix2, ix8, ix22, ix5, ↓reduceIte, hP, lt_eq, hk, c_isDead ha, hd, bI_f, n0_0, hc]
      · rw [if_neg (fun z => hc z.2)]
        simp (disch := omega) only [gX7_endangered, fX7_endangered_0, fX7_endangered_4, fX7_endangered_12, fX7_endangered_15, fX7_endangered_18, fX7_endangered_21, fX7_endangered_41, fX7_endangered_47, fX7_endangered_48, fX7_endangered_56, kI_0, tl_g3 htl, pl_isO ha, pl_f0 ha, pl_r0 ha, tl_f9 htl, tl_r9 htl, tl_g1 htl, kI_1, Option.bind_some, n35, n9, n19, n51, n59, nI_add, ix2, ix8, ix22, ix5, ↓reduceIte, hP, lt_eq, hk, c_isDead ha, hd, bI_f, n0_0, hc]
  · simp (disch := omega) only [gX7_endangered, fX7_endangered_0, fX7_endangered_4, fX7_endangered_12, fX7_endangered_15, fX7_endangered_18, fX7_endangered_21, fX7_endangered_41, fX7_endangered_47, fX7_endangered_48, fX7_endangered_56, kI_0, tl_g3 htl, pl_isO ha, pl_f0 ha, pl_r0 ha, tl_f9 htl, tl_r9 htl, tl_g1 htl, kI_1, Option.bind_some, n35, n9, n19, n51, n59, nI_add, ix2, ix8, ix22, ix5, ↓reduceIte, hP, lt_eq, Nat.lt_irrefl]
set_option maxRecDepth 100000 in
set_option maxHeartbeats 400000 in
theorem c_kA {S1 : Mem} {d D : Nat} (htl : tlA t) (ht0 : 56 ≤ t) (hy : Yes S t P N F U E) (hd : d < 3) (h1 : S1 t = S t) {W : Row} (hA : agR (S1 (22 + 4 * d)) W P N) (hI : Inv W P N D) {x : Int32} : ∃ S2, gX2_keepsAll 17 t (nI d) x (hp S1 J T) = some (bI (decide (dayR (S 170) W P N F x false (S 170 0) 10 = W 10)), hp S2 J T) ∧ agR (S2 (22 + 4 * (d + 1))) (dayR (S 170) W P N F x false (S 170 0)) P N ∧ fr S1 S2 [22 + 4 * (d + 1), 19] := by
  have hP5 : P ≤ 5 := hy.1.1.2.1
  have hN8 : N ≤ 8 := hy.1.1.2.2.2.1
  have hT : TbS (S t) P N := TbS_ag hy.2.1 hy.1.1
  have pa := plA_f d (by omega)
  have pb := plA_f (d + 1) (by omega)
  have hcp := c_copy (S := S1) (J := J) (T := T) (a := 22 + 4 * (d + 1)) (b := 22 + 4 * d) pb pa (by omega)
  generalize hX : cpR (S1 (22 + 4 * d)) (S1 (22 + 4 * (d + 1))) 22 = X at hcp
  have hXa : agR X W P N := by rw [← hX]; exact agR_cp hP5 hN8 hA
  generalize hSb : stR S1 (22 + 4 * (d + 1)) X = Sb at hcp
  have bx : Sb (22 + 4 * (d + 1)) = X := by rw [← hSb, stR_eq]
  have be : ∀ c, c ≠ 22 + 4 * (d + 1) → Sb c = S1 c := fun c z => by rw [← hSb, stR_ne z]
  have bt' : Sb t = S t := by rw [be t (by omega)]; exact h1
  obtain ⟨S2, k1, k2, k3, k4⟩ := y_hold (S := Sb) (J := J) (T := T) (a := 22 + 4 * (d + 1)) (m := 19) (t := t) (P := P) (N := N) (F := F) (D := D) (bes := x) (fl := false) mlA_19 pb htl (by omega) (by omega) (by omega) (by rw [bt']; exact hT) (by rw [bt', hy.2.1.1 5 (by omega)]; exact hy.1.2.2.1) hy.1.2.2.2.1 (by rw [bx]; exact Inv_ag hXa hI)
  rw [bI_f, bt'] at k1
  rw [bt', bx, hy.2.1.1 0 (by omega)] at k2
  have hB : agR (S2 (22 + 4 * (d + 1))) (dayR (S 170) W P N F x false (S 170 0)) P N := by
    rw [k2]
    exact (ag_day hy.2.1 hXa hP5 _ _ _).1
  refine ⟨S2, ?_, hB, fr_tr (by rw [← hSb]; exact fr_st (fr_rf S1 _) (by simp)) (fr_mo k4 (by simp))⟩
  have e10 : S2 (22 + 4 * (d + 1)) 10 = dayR (S 170) W P N F x false (S 170 0) 10 := hB.2.1 10 (by omega) (by omega)
  have f10 : S2 (22 + 4 * d) 10 = W 10 := by rw [k4 _ (by simp; omega), be _ (by omega)]; exact hA.2.1 10 (by omega) (by omega)
  have e0 : Sb t 0 = S t 0 := by rw [bt']
  unfold gX2_keepsAll fX2_keepsAll_0
  rw [se_f3, Option.bind_some, kI_1, nI_add, se_r3 (by omega), Option.bind_some, Option.bind_some, se_r3 (by omega), Option.bind_some]
  unfold fX2_keepsAll_14
  rw [pl_isO pb, Option.bind_some, hcp, Option.bind_some]
  unfold fX2_keepsAll_17
  rw [se_f4, Option.bind_some, se_f3, Option.bind_some, kI_1, nI_add, se_r3 (by omega), Option.bind_some, tl_g0 htl, Option.bind_some, e0, kI_0]
  unfold fX2_keepsAll_36
  rw [ml_isO mlA_19, Option.bind_some, k1, Option.bind_some]
  unfold fX2_keepsAll_39
  rw [se_f3, Option.bind_some, kI_1, nI_add, se_r3 (by omega), Option.bind_some, pl_g3 pb, Option.bind_some, Option.bind_some, se_r3 (by omega), Option.bind_some, pl_g3 pa, Option.bind_some, e10, f10]
  by_cases z : dayR (S 170) W P N F x false (S 170 0) 10 = W 10
  · rw [if_pos z, decide_eq_true z]
    simp only [fX2_keepsAll_62, fX2_keepsAll_67, kI_1, n1_0, n11, false_or, if_true, z1_z, ↓reduceIte, bI_t]
  · rw [if_neg z, decide_eq_false z]
    simp only [fX2_keepsAll_66, fX2_keepsAll_67, kI_0, n0_0, true_or, if_true, z0_z, ↓reduceIte, bI_f]
end SE

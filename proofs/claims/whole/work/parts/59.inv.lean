-- WHAT STAYS SMALL
def TbS (r : Row) (P N : Nat) : Prop := r 3 = nI P ∧ P ≤ 5 ∧ r 4 = nI N ∧ N ≤ 8 ∧ sm (r 0) 20 ∧ sm (r 1) 200 ∧ (∀ p, p < P → sm (r (10 + 2 * p)) 9) ∧ Lst r N
def Inv (R : Row) (P N D : Nat) : Prop := (∀ p, p < P → sm (R p) 300) ∧ (∀ p, p < P → lv R p = true → sm (R p) 200) ∧ (∀ p, p < P → sm (R (5 + p)) D) ∧ sm (R 12) 99 ∧ (∀ k, k < N → sm (R (14 + k)) 20) ∧ sm (R 10) 31 ∧ sm (R 13) D ∧ sm (R 11) 31
set_option maxRecDepth 100000 in
set_option maxHeartbeats 400000 in
theorem sm_le {x : Int32} {A B : Nat} (h : sm x A) (hAB : A ≤ B) : sm x B := by
  obtain ⟨n, hn, e⟩ := h
  exact ⟨n, by omega, e⟩
section INV
variable {r R : Row} {P N F D : Nat}
set_option maxRecDepth 100000 in
set_option maxHeartbeats 400000 in
theorem inv_Sml (ht : TbS r P N) (h : Inv R P N D) : Sml r R P N := ⟨fun p hp => sm_le (h.1 p hp) (by omega), fun p hp => sm_le (ht.2.2.2.2.2.2.1 p hp) (by omega), h.2.2.2.1, fun k hk => sm_le (h.2.2.2.2.1 k hk) (by omega)⟩
set_option maxRecDepth 100000 in
set_option maxHeartbeats 400000 in
theorem inv_Fsm (h : Inv R P N D) (hD : D ≤ 4000) : Fsm R P := fun p hp => sm_le (h.2.2.1 p hp) hD
set_option maxRecDepth 100000 in
set_option maxHeartbeats 400000 in
theorem ddR_in {p : Nat} (hp : p < 32) : ∀ k, k ≤ 32 → bt (ddR r R k) p = (bt (R 10) p || (decide (p < k) && (lv R p && decide (r 1 < R p)))) := by
  intro k
  induction k with
  | zero => intro _; unfold ddR; rw [decide_eq_false (by omega), Bool.false_and, Bool.or_false]
  | succ k ih0 =>
    intro hk32
    have ih := ih0 (by omega)
    unfold ddR
    by_cases hc : lv R k = true ∧ r 1 < R k
    · rw [if_pos hc]
      by_cases hk : k < 32
      · rw [b_or, ih, b_sh k hk hp]
        by_cases e : p = k
        · subst e
          rw [hc.1, decide_eq_true hc.2, decide_eq_true rfl, decide_eq_true (show p < p + 1 by omega)]
          simp
        · by_cases e2 : p < k
          · rw [decide_eq_true e2, decide_eq_false e, decide_eq_true (show p < k + 1 by omega), Bool.or_false]
          · rw [decide_eq_false e2, decide_eq_false e, decide_eq_false (show ¬ p < k + 1 by omega), Bool.or_false]
      · omega
    · rw [if_neg hc, ih]
      by_cases e : p = k
      · subst e
        have : (lv R p && decide (r 1 < R p)) = false := by
          cases hl : lv R p with
          | false => rfl
          | true => rw [decide_eq_false (fun z => hc ⟨hl, z⟩)]; rfl
        rw [this, Bool.and_false, Bool.and_false]
      · by_cases e2 : p < k
        · rw [decide_eq_true e2, decide_eq_true (show p < k + 1 by omega)]
        · rw [decide_eq_false e2, decide_eq_false (show ¬ p < k + 1 by omega)]
set_option maxRecDepth 100000 in
set_option maxHeartbeats 400000 in
theorem or_bit : ∀ x, x < 32 → ∀ k, k < 5 → nI x ||| (nI 1 <<< (nI k &&& 31)) = nI (x ||| 2 ^ k) ∧ x ||| 2 ^ k < 32 := by decide +kernel
set_option maxRecDepth 100000 in
set_option maxHeartbeats 400000 in
theorem ddR_sm (h : sm (R 10) 31) : ∀ k, k ≤ 5 → sm (ddR r R k) 31 := by
  intro k
  induction k with
  | zero => intro _; exact h
  | succ k ih =>
    intro hk
    obtain ⟨x, hx, e⟩ := ih (by omega)
    unfold ddR
    split
    · rw [e, (or_bit x (by omega) k (by omega)).1]
      exact ⟨_, by have := (or_bit x (by omega) k (by omega)).2; omega, rfl⟩
    · exact ⟨x, hx, e⟩
set_option maxRecDepth 100000 in
set_option maxHeartbeats 400000 in
theorem gr_inv (ht : TbS r P N) (h : Inv R P N D) : ∀ p, p < P → sm (grR r R P p) 300 := by
  intro p hp
  unfold grR
  split
  · rename_i hc
    obtain ⟨a, ha, ea⟩ := h.2.1 p hp hc.2
    obtain ⟨b, hb, eb⟩ := ht.2.2.2.2.2.2.1 p hp
    exact ⟨a + b, by omega, by rw [ea, eb, nI_add]⟩
  · exact h.1 p hp
set_option maxRecDepth 100000 in
set_option maxHeartbeats 400000 in
theorem dRw_lo {f bowl : Int32} {x : Option Nat} (ht : TbS r P N) (h : Inv R P N D) {p : Nat} (hp : p < P) : sm (dRw r R P f bowl x p) 300 := by
  unfold dRw
  rw [pE_lo hp]
  have h1 := (srv_le (cN2 (wo R x)) (dSq r R P f) 100 (fun p => cN2 (grR r R P p), cN2 (dPo R bowl), fun _ => 0, true)).1 p
  have h2 := (sm_cN (gr_inv ht h p hp) (by omega)).2
  dsimp only at h1
  exact ⟨_, Nat.le_trans h1 h2, rfl⟩
set_option maxRecDepth 100000 in
set_option maxHeartbeats 400000 in
theorem dRw_12 {f bowl : Int32} {x : Option Nat} (ht : TbS r P N) (h : Inv R P N D) (hb : sm bowl 20) : sm (dRw r R P f bowl x 12) 99 := by
  unfold dRw
  rw [pE_12 (by have := ht.2.1; omega)]
  have h1 := (srv_le (cN2 (wo R x)) (dSq r R P f) 100 (fun p => cN2 (grR r R P p), cN2 (dPo R bowl), fun _ => 0, true)).2
  have h2 := (sm_cN (dPo_sm (inv_Sml ht h) hb) (by omega)).2
  dsimp only at h1
  exact ⟨_, Nat.le_trans h1 h2, rfl⟩
set_option maxRecDepth 100000 in
set_option maxHeartbeats 400000 in
theorem dRw_hi {f bowl : Int32} {x : Option Nat} (hP5 : P ≤ 5) {j : Nat} (hj : 5 ≤ j) (h12 : j ≠ 12) : dRw r R P f bowl x j = R j := by
  unfold dRw pE
  rw [if_neg (by omega), if_neg h12, grR_ge (by omega)]
set_option maxRecDepth 100000 in
set_option maxHeartbeats 400000 in
theorem lv_dRw {f bowl : Int32} {x : Option Nat} (hP5 : P ≤ 5) (p : Nat) : lv (dRw r R P f bowl x) p = lv R p := by
  unfold lv
  rw [dRw_hi hP5 (by omega) (by omega)]
set_option maxRecDepth 100000 in
set_option maxHeartbeats 400000 in
theorem dEnd_lo {f : Int32} {p : Nat} (hp : p < 5) : dEnd r f R P p = R p := by
  unfold dEnd
  rw [up_ne (by omega), up_ne (by omega), clR_lo hp]
set_option maxRecDepth 100000 in
set_option maxHeartbeats 400000 in
theorem dEnd_10 {f : Int32} (hP5 : P ≤ 5) : dEnd r f R P 10 = ddR r R P := by
  unfold dEnd
  rw [up_ne (by omega), up_ne (by omega), clR_10 hP5]
set_option maxRecDepth 100000 in
set_option maxHeartbeats 400000 in
theorem dEnd_13 {f : Int32} : dEnd r f R P 13 = R 13 + nI 1 := up_eq
set_option maxRecDepth 100000 in
set_option maxHeartbeats 400000 in
theorem dEnd_11 {f : Int32} : dEnd r f R P 11 = nI 0 := by
  unfold dEnd
  rw [up_ne (by omega), up_eq]
set_option maxRecDepth 100000 in
set_option maxHeartbeats 400000 in
theorem dEnd_12 {f : Int32} (hP5 : P ≤ 5) : dEnd r f R P 12 = R 12 := by
  unfold dEnd
  rw [up_ne (by omega), up_ne (by omega), clR_ge (by omega) (by omega)]
set_option maxRecDepth 100000 in
set_option maxHeartbeats 400000 in
theorem dEnd_14 {f : Int32} (hP5 : P ≤ 5) {k : Nat} : dEnd r f R P (14 + k) = R (14 + k) := by
  unfold dEnd
  rw [up_ne (by omega), up_ne (by omega), clR_ge (by omega) (by omega)]
set_option maxRecDepth 100000 in
set_option maxHeartbeats 400000 in
theorem day_inv (ht : TbS r P N) (h : Inv R P N D) (hD : D ≤ 3000) {bes bowl : Int32} {fl : Bool} (hb : sm bowl 20) : Inv (dayR r R P N F bes fl bowl) P N (D + 1) := by
  have hP5 := ht.2.1
  unfold dayR
  generalize dF r R F bes = f
  generalize dWt r R P N fl = x
  refine ⟨fun p hp => ?_, fun p hp hl => ?_, fun p hp => ?_, ?_, fun k hk => ?_, ?_, ?_, ?_⟩
  · rw [dEnd_lo (by omega)]
    exact dRw_lo ht h hp
  · rw [dEnd_lo (by omega)]
    obtain ⟨n, hn, en⟩ := dRw_lo (f := f) (bowl := bowl) (x := x) ht h hp
    obtain ⟨s, hs, es⟩ := ht.2.2.2.2.2.1
    refine ⟨n, ?_, en⟩
    unfold lv at hl
    rw [dEnd_10 hP5, ddR_in (by omega) P (by omega), decide_eq_true hp] at hl
    have h2 : bt (dRw r R P f bowl x 10) p = false ∧ (lv (dRw r R P f bowl x) p && decide (r 1 < dRw r R P f bowl x p)) = false := by
      cases e1 : bt (dRw r R P f bowl x 10) p <;> cases e2 : (lv (dRw r R P f bowl x) p && decide (r 1 < dRw r R P f bowl x p)) <;> rw [e1, e2] at hl <;> first | exact ⟨rfl, rfl⟩ | cases hl
    have h3 : lv (dRw r R P f bowl x) p = true := by unfold lv; rw [h2.1]; rfl
    rw [h3, Bool.true_and] at h2
    have h4 := of_decide_eq_false h2.2
    rw [en, es] at h4
    rcases Nat.lt_or_ge s n with z | z
    · exact absurd ((lt_iff (by omega) (by omega)).mpr z) h4
    · omega
  · unfold dEnd
    rw [up_ne (by omega), up_ne (by omega)]
    unfold clR
    split
    · obtain ⟨d, hd, ed⟩ := h.2.2.1 p hp
      split
      · rw [dRw_hi hP5 (by omega) (by omega), ed, nI_add]
        exact ⟨d + 1, by omega, rfl⟩
      · exact ⟨0, by omega, rfl⟩
    · rw [if_neg (by omega), dRw_hi hP5 (by omega) (by omega)]
      exact sm_le (h.2.2.1 p hp) (by omega)
  · rw [dEnd_12 hP5]
    exact dRw_12 ht h hb
  · rw [dEnd_14 hP5, dRw_hi hP5 (by omega) (by omega)]
    exact h.2.2.2.2.1 k hk
  · rw [dEnd_10 hP5]
    exact ddR_sm (by rw [dRw_hi hP5 (by omega) (by omega)]; exact h.2.2.2.2.2.1) P hP5
  · rw [dEnd_13, dRw_hi hP5 (by omega) (by omega)]
    obtain ⟨d, hd, ed⟩ := h.2.2.2.2.2.2.1
    exact ⟨d + 1, by omega, by rw [ed, nI_add]⟩
  · rw [dEnd_11]
    exact ⟨0, by omega, rfl⟩
set_option maxRecDepth 100000 in
set_option maxHeartbeats 400000 in
theorem wo_day {bes bowl : Int32} {fl : Bool} (hP5 : P ≤ 5) (x : Option Nat) : wo (dayR r R P N F bes fl bowl) x = wo R x := by
  cases x with
  | none => rfl
  | some k =>
    unfold dayR
    show dEnd _ _ _ _ (14 + k) = R (14 + k)
    rw [dEnd_14 hP5, dRw_hi hP5 (by omega) (by omega)]
end INV
-- days one behind the other, nobody fasting besides
def dyN (r : Row) (P N F : Nat) (bowl : Int32) : Nat → Row → Row
  | 0, R => R
  | n + 1, R => dyN r P N F bowl n (dayR r R P N F (nI 0) false bowl)
set_option maxRecDepth 100000 in
set_option maxHeartbeats 400000 in
theorem dyN_s {r : Row} {P N F : Nat} {bowl : Int32} : ∀ (n : Nat) (R : Row), dyN r P N F bowl (n + 1) R = dayR r (dyN r P N F bowl n R) P N F (nI 0) false bowl := by
  intro n
  induction n with
  | zero => intro R; rfl
  | succ n ih => intro R; exact ih _
set_option maxRecDepth 100000 in
set_option maxHeartbeats 400000 in
theorem dyN_inv {r R : Row} {P N F D : Nat} {bowl : Int32} (ht : TbS r P N) (h : Inv R P N D) (hb : sm bowl 20) : ∀ n, D + n ≤ 3001 → Inv (dyN r P N F bowl n R) P N (D + n) := by
  intro n
  induction n with
  | zero => intro _; exact h
  | succ n ih =>
    intro hn
    rw [dyN_s]
    exact day_inv ht (ih (by omega)) (by omega) hb
set_option maxRecDepth 100000 in
set_option maxHeartbeats 400000 in
theorem dyN_ag {r q R Q : Row} {P N F : Nat} {bowl : Int32} (hr : agT r q P N F) (h : agR R Q P N) (hP5 : P ≤ 5) : ∀ n, agR (dyN r P N F bowl n R) (dyN q P N F bowl n Q) P N := by
  intro n
  induction n with
  | zero => exact h
  | succ n ih =>
    rw [dyN_s, dyN_s]
    exact (ag_day hr ih hP5 _ _ _).1

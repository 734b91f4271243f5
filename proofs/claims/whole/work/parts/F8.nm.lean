-- THE TEXT: names told, the class
def wrC (S : Mem) (y : Nat → Nat) (n : Nat) (W : WL) : Prop := S 1 8 = nI W.length ∧ W.length ≤ 13 ∧ ∀ i w, W[i]? = some w → S 3 i = nI w.1 ∧ S 4 i = nI (w.1 + w.2.1) ∧ S 5 i = bI (decide (w.2.2 < 5)) ∧ S 6 i = nI (if w.2.2 < 5 then w.2.2 else w.2.2 - 5) ∧ w.1 + w.2.1 ≤ n ∧ w.2.2 < 13 ∧ ∀ k, k < w.2.1 → ltB (y (w.1 + k)) = true
def frW (S S' : Mem) : Prop := (∀ c, c ∉ [1, 3, 4, 5, 6] → S' c = S c) ∧ ∀ j, j ≠ 1 → j ≠ 2 → j ≠ 8 → j ≠ 10 → j ≠ 11 → j ≠ 12 → j ≠ 13 → S' 1 j = S 1 j
set_option maxRecDepth 100000 in
set_option maxHeartbeats 400000 in
theorem frR_W {S S' : Mem} (h : frR S S') : frW S S' := ⟨fun c hc => h.1 c (fun z => hc (by rw [z]; decide)), fun j a b _ c d e f => h.2 j a b c d e f⟩
set_option maxRecDepth 100000 in
set_option maxHeartbeats 400000 in
theorem frW_tr {S S' S'' : Mem} (h : frW S S') (q : frW S' S'') : frW S S'' := ⟨fun c hc => (q.1 c hc).trans (h.1 c hc), fun j a b c d e f g => (q.2 j a b c d e f g).trans (h.2 j a b c d e f g)⟩
set_option maxRecDepth 100000 in
set_option maxHeartbeats 400000 in
theorem wrC_fr {S S' : Mem} {y : Nat → Nat} {n : Nat} {W : WL} (h : wrC S y n W) (hf : frR S S') : wrC S' y n W := by
  obtain ⟨h1, h2, h3⟩ := h
  refine ⟨by rw [hf.2 8 (by omega) (by omega) (by omega) (by omega) (by omega) (by omega)]; exact h1, h2, fun i w hw => ?_⟩
  rw [hf.1 3 (by omega), hf.1 4 (by omega), hf.1 5 (by omega), hf.1 6 (by omega)]
  exact h3 i w hw
set_option maxRecDepth 100000 in
set_option maxHeartbeats 400000 in
theorem nar_b (b : Bool) : vp_nar .boolean (bI b) = bI b := by cases b <;> decide
section NMC
variable {S : Mem} {J : MeJ} {T : Nat → Nat} {y : Nat → Nat} {n s : Nat} {W : WL}
set_option maxRecDepth 100000 in
set_option maxHeartbeats 400000 in
theorem c_same (h : tC S y n s) (hW : wrC S y n W) (h2 : tkK y n s = 2) {i : Nat} {w : Nat × Nat × Nat} (hw : W[i]? = some w) : gX8_isSameWord 1 (nI i) (hp S J T) = some (bI (decide (w.2.1 = tkE y n s - s) && eqY y w.1 s (tkE y n s - s)), hp S J T) := by
  have hn7 := h.1.1
  obtain ⟨t1, t2, t3, t4, t5⟩ := tk2 h2
  obtain ⟨w1, w2, w3, w4, w5, w6, w7⟩ := hW.2.2 i w hw
  have hil : i < W.length := (List.getElem?_eq_some_iff.mp hw).1
  have hi13 : i < 13 := by have := hW.2.1; omega
  have hE := tkE_b (y := y) h.2.1
  unfold gX8_isSameWord fX8_isSameWord_0
  rw [rd_g11, Option.bind_some, rd_g10, Option.bind_some, rd_f5, Option.bind_some, rd_r5 hi13, Option.bind_some, rd_f4, Option.bind_some, rd_r4 hi13, Option.bind_some, h.2.2.2.1, h.2.2.2.2.1, w1, w2, nI_sub hE.1, nI_sub (Nat.le_add_right _ _), Nat.add_sub_cancel_left]
  by_cases zl : w.2.1 = tkE y n s - s
  · rw [zl, if_pos rfl, decide_eq_true rfl, Bool.true_and]
    have hloop : ∀ m k g, k + m = tkE y n s - s → m < g → eqY y w.1 s k = true → lX8_isSameWord_31 g 1 (nI i) (nI (tkE y n s - s)) (nI k) (hp S J T) = some (bI (eqY y w.1 s (tkE y n s - s)), hp S J T) := by
      intro m
      induction m with
      | zero =>
        intro k g hk hg he
        obtain ⟨g, rfl⟩ : ∃ x, g = x + 1 := ⟨g - 1, by omega⟩
        obtain rfl : k = tkE y n s - s := by omega
        rw [he]
        unfold lX8_isSameWord_31 fX8_isSameWord_31
        rw [if_neg (nltn (Nat.lt_irrefl _) (by omega) (by omega))]
        unfold fX8_isSameWord_71
        rw [kI_1, if_pos o_1, bI_t]
      | succ m ih =>
        intro k g hk hg he
        obtain ⟨g, rfl⟩ : ∃ x, g = x + 1 := ⟨g - 1, by omega⟩
        have hkL : k < tkE y n s - s := by omega
        have l1 := of_decide_eq_true (t4 (s + k) (by omega) (by omega))
        have l2 := of_decide_eq_true (w7 k (by omega))
        have e1 : S 2 (s + k) = nI (y (s + k)) := by rw [(h.1.2 (s + k) (by omega)).2, bv_n _ (by omega)]
        have e2 : S 2 (w.1 + k) = nI (y (w.1 + k)) := by rw [(h.1.2 (w.1 + k) (by omega)).2, bv_n _ (by omega)]
        have eS : eqY y w.1 s (k + 1) = decide (y (w.1 + k) = y (s + k)) := by
          show (eqY y w.1 s k && decide (y (w.1 + k) = y (s + k))) = _
          rw [he, Bool.true_and]
        conv => lhs; unfold lX8_isSameWord_31
        unfold fX8_isSameWord_31
        rw [if_pos (ltn hkL (by omega))]
        unfold fX8_isSameWord_36
        rw [rd_f3, Option.bind_some, rd_f4, Option.bind_some, rd_r4 hi13, Option.bind_some, w1, nI_add, rd_r3 (by omega), Option.bind_some, Option.bind_some, rd_g10, Option.bind_some, h.2.2.2.1, nI_add, rd_r3 (by omega), Option.bind_some, e1, e2]
        by_cases zc : y (w.1 + k) = y (s + k)
        · rw [if_pos (show nI (y (w.1 + k)) = nI (y (s + k)) by rw [zc])]
          unfold fX8_isSameWord_65
          rw [kI_1, nI_add]
          exact ih (k + 1) g (by omega) (by omega) (by rw [eS]; exact decide_eq_true zc)
        · have hf : ∀ m, eqY y w.1 s (k + 1 + m) = false := by
            intro m
            induction m with
            | zero => rw [Nat.add_zero, eS]; exact decide_eq_false zc
            | succ m ih2 =>
              show (eqY y w.1 s (k + 1 + m) && _) = false
              rw [ih2, Bool.false_and]
          have hff := hf m
          rw [show k + 1 + m = tkE y n s - s by omega] at hff
          rw [if_neg (show ¬ nI (y (w.1 + k)) = nI (y (s + k)) by rw [eq_eq (by omega) (by omega)]; exact zc), hff]
          unfold fX8_isSameWord_63
          rw [kI_0, if_pos o_0, bI_f]
    unfold fX8_isSameWord_29
    rw [kI_0]
    exact hloop (tkE y n s - s) 0 FU (by omega) (FU_lt (by omega)) rfl
  · rw [if_neg (show ¬ nI w.2.1 = nI (tkE y n s - s) by rw [eq_eq (by omega) (by omega)]; exact zl), decide_eq_false zl, Bool.false_and]
    unfold fX8_isSameWord_27
    rw [kI_0, if_pos o_0, bI_f]
def whR (y : Nat → Nat) (s l : Nat) (W V : WL) (r : Option Nat) : Prop := match r with
  | none => fdW y s l V = none
  | some i => ∃ w, W[i]? = some w ∧ fdW y s l V = some w.2.2
set_option maxRecDepth 100000 in
set_option maxHeartbeats 400000 in
theorem c_wHere (h : tC S y n s) (hW : wrC S y n W) (h2 : tkK y n s = 2) : ∃ r, gX8_wordHere 1 (hp S J T) = some (om r, hp S J T) ∧ whR y s (tkE y n s - s) W W r ∧ ∀ i, r = some i → i < 13 := by
  have hloop : ∀ (V : WL) (k g : Nat), (∀ i, W[k + i]? = V[i]?) → k + V.length = W.length → V.length < g → ∃ r, lX8_wordHere_2 g 1 (nI k) (hp S J T) = some (om r, hp S J T) ∧ whR y s (tkE y n s - s) W V r ∧ ∀ i, r = some i → i < 13 := by
    intro V
    induction V with
    | nil =>
      intro k g hv hk hg
      obtain ⟨g, rfl⟩ : ∃ x, g = x + 1 := ⟨g - 1, by omega⟩
      have hk' : k = W.length := hk
      have := hW.2.1
      refine ⟨none, ?_, rfl, fun i hi => by cases hi⟩
      unfold lX8_wordHere_2 fX8_wordHere_2
      rw [rd_g8, Option.bind_some, hW.1, if_neg (nltn (by omega) (by omega) (by omega))]
      unfold fX8_wordHere_26
      rw [kI_n]
      rfl
    | cons v vs ih =>
      intro k g hv hk hg
      obtain ⟨g, rfl⟩ : ∃ x, g = x + 1 := ⟨g - 1, by omega⟩
      have hkl : k < W.length := by rw [List.length_cons] at hk; omega
      have := hW.2.1
      have hvk : W[k]? = some v := by have := hv 0; rw [Nat.add_zero] at this; exact this
      have h15 : lX8_wordHere_2 (g + 1) 1 (nI k) (hp S J T) = fX8_wordHere_15 (lX8_wordHere_2 g) 1 (nI k) (bI (decide (v.2.1 = tkE y n s - s) && eqY y v.1 s (tkE y n s - s))) (hp S J T) := by
        conv => lhs; unfold lX8_wordHere_2
        unfold fX8_wordHere_2
        rw [rd_g8, Option.bind_some, hW.1, if_pos (ltn hkl (by omega))]
        unfold fX8_wordHere_10 fX8_wordHere_12
        rw [rd_isO, Option.bind_some, c_same h hW h2 hvk, Option.bind_some]
      rw [h15]
      unfold fX8_wordHere_15
      by_cases zm : v.2.1 = tkE y n s - s ∧ eqY y v.1 s (tkE y n s - s) = true
      · refine ⟨some k, ?_, ⟨v, hvk, ?_⟩, fun i hi => by cases hi; omega⟩
        · rw [decide_eq_true zm.1, zm.2, if_neg (show ¬ bI (true && true) = 0 by decide)]
          rfl
        · show (if v.2.1 = _ ∧ _ then _ else _) = _
          rw [if_pos zm]
      · have hb : (decide (v.2.1 = tkE y n s - s) && eqY y v.1 s (tkE y n s - s)) = false := by
          by_cases z : v.2.1 = tkE y n s - s
          · rw [decide_eq_true z, Bool.true_and]
            cases he : eqY y v.1 s (tkE y n s - s) with
            | false => rfl
            | true => exact absurd ⟨z, he⟩ zm
          · rw [decide_eq_false z, Bool.false_and]
        obtain ⟨r, a1, a2, a3⟩ := ih (k + 1) g (fun i => by rw [show k + 1 + i = k + (i + 1) by omega, hv (i + 1)]; rfl) (by rw [List.length_cons] at hk; omega) (by rw [List.length_cons] at hg; omega)
        refine ⟨r, ?_, ?_, a3⟩
        · rw [hb, if_pos (show bI false = 0 by decide)]
          unfold fX8_wordHere_20
          rw [kI_1, nI_add]
          exact a1
        · have ef : fdW y s (tkE y n s - s) (v :: vs) = fdW y s (tkE y n s - s) vs := by
            show (if v.2.1 = _ ∧ _ then _ else _) = _
            rw [if_neg zm]
          cases r with
          | none => show fdW y s _ (v :: vs) = none; rw [ef]; exact a2
          | some i =>
            obtain ⟨w, w1, w2⟩ := a2
            exact ⟨w, w1, by rw [ef]; exact w2⟩
  have := hW.2.1
  obtain ⟨r, a1, a2, a3⟩ := hloop W 0 FU (fun i => by rw [Nat.zero_add]) (by omega) (FU_lt (by omega))
  refine ⟨r, ?_, a2, a3⟩
  unfold gX8_wordHere fX8_wordHere_0
  rw [kI_0]
  exact a1
end NMC

-- THE BEST FAST: the class
set_option maxRecDepth 100000 in
set_option maxHeartbeats 400000 in
theorem wvl_sm {r R : Row} {P N F D : Nat} (hT : TbS r P N) (hI : Inv R P N D) (hD : D ≤ 3000) (k : Nat) : sm (wvl r R P N F k) 20 := by
  have h1 : Inv (rw1 r R P N F k) P N (D + 1) := day_inv hT hI hD hT.2.2.2.2.1
  unfold wvl
  cases hx : dWt r (rw1 r R P N F k) P N false with
  | none => exact ⟨0, by omega, rfl⟩
  | some j => exact h1.2.2.2.2.1 j (dWt_lt j hx)
section BF2
variable {S : Mem} {J : MeJ} {T : Nat → Nat} {t P N F U E : Nat}
set_option maxRecDepth 100000 in
set_option maxHeartbeats 400000 in
theorem l_sw (htl : tlA t) (ht0 : 56 ≤ t) (hy : Yes S t P N F U E) {f : Nat} (hf : f < 32) : ∀ m k g S1 b, k + m = f + 1 → m < g → S1 t = S t → S1 139 = S 139 → (∀ j, b = some j → j < k) → cSt (wvl (S 170) (S 174) P N F) (S1 17) b → ∃ S', lX2_seekWorth_34 g 17 t 139 (nI f) 22 (nI k) (hp S1 J T) = some (hp S' J T) ∧ cSt (wvl (S 170) (S 174) P N F) (S' 17) (am (btr (wvl (S 170) (S 174) P N F)) (lF (nI f)) m k b) ∧ fr S1 S' [17, 19, 22] := by
  have hP5 : P ≤ 5 := hy.1.1.2.1
  have hN8 : N ≤ 8 := hy.1.1.2.2.2.1
  have hT : TbS (S t) P N := TbS_ag hy.2.1 hy.1.1
  intro m
  induction m with
  | zero =>
    intro k g S1 b hk hg h1 h2 hb h3
    obtain ⟨g, rfl⟩ : ∃ x, g = x + 1 := ⟨g - 1, by omega⟩
    refine ⟨S1, ?_, h3, fr_rf _ _⟩
    unfold lX2_seekWorth_34
    simp (disch := omega) only [fX2_seekWorth_34, fX2_seekWorth_96, lt_eq, show f < k by omega, ↓reduceIte]
  | succ m ih =>
    intro k g S1 b hk hg h1 h2 hb h3
    obtain ⟨g, rfl⟩ : ∃ x, g = x + 1 := ⟨g - 1, by omega⟩
    have hfk : ¬ f < k := by omega
    cases hl : lF (nI f) k with
    | false =>
      have hq : (nI k &&& (nI f ^^^ m1) = 0) = False := eq_false (of_decide_eq_false hl)
      obtain ⟨S3, a1, a2, a3⟩ := ih (k + 1) g S1 b (by omega) (by omega) h1 h2 (fun j hj => by have := hb j hj; omega) h3
      refine ⟨S3, ?_, ?_, a3⟩
      · rw [← a1]
        conv => lhs; unfold lX2_seekWorth_34
        simp (disch := omega) only [fX2_seekWorth_34, fX2_seekWorth_40, fX2_seekWorth_90, lt_eq, hfk, kI_n, kI_1, hq, ↓reduceIte, nI_add]
      · show cSt _ _ (am _ _ m (k + 1) (ams _ _ k b))
        rw [ams_f hl]
        exact a2
    | true =>
      have hq : (nI k &&& (nI f ^^^ m1) = 0) = True := eq_true (of_decide_eq_true hl)
      have hcp := c_copy (S := S1) (J := J) (T := T) (a := 22) (b := 139) plA_22 plA_139 (by omega)
      rw [h2] at hcp
      have hR : agR (cpR (S 139) (S1 22) 22) (S 174) P N := agR_cp hP5 hN8 hy.2.2.2.2.1
      generalize hSb : stR S1 22 (cpR (S 139) (S1 22) 22) = Sb at hcp
      have b22 : Sb 22 = cpR (S 139) (S1 22) 22 := by rw [← hSb, stR_eq]
      have be : ∀ c, c ≠ 22 → Sb c = S1 c := fun c z => by rw [← hSb, stR_ne z]
      have bt' : Sb t = S t := by rw [be t (by omega)]; exact h1
      obtain ⟨S2, k1, k2, k3, k4⟩ := y_hold (S := Sb) (J := J) (T := T) (a := 22) (m := 19) (t := t) (P := P) (N := N) (F := F) (D := 999) (bes := nI k) (fl := false) mlA_19 plA_22 htl (by omega) (by omega) (by omega) (by rw [bt']; exact hT) (by rw [bt', hy.2.1.1 5 (by omega)]; exact hy.1.2.2.1) hy.1.2.2.2.1 (by rw [b22]; exact Inv_ag hR hy.2.2.2.2.2.1)
      rw [bI_f, bt'] at k1
      rw [bt', b22] at k2
      have t2 : S2 t = S t := by rw [k4 t (by simp; omega)]; exact bt'
      have hA : agR (S2 22) (rw1 (S 170) (S 174) P N F k) P N := by
        rw [k2]
        unfold rw1
        rw [hy.2.1.1 0 (by omega)]
        exact (ag_day hy.2.1 hR hP5 _ _ _).1
      have hnd := c_nextDish (S := S2) (J := J) (T := T) (a := 22) (t := t) (fl := false) plA_22 htl (by rw [t2]; exact hT.1) hP5 (by rw [t2]; exact hT.2.2.1) hN8
      rw [bI_f, t2, ag_dWt hy.2.1 hA] at hnd
      have hwo := c_worthOf (S := S2) (J := J) (T := T) (a := 22) plA_22 (q := dWt (S 170) (rw1 (S 170) (S 174) P N F k) P N false) (fun j hj => by have := dWt_lt j hj; omega)
      rw [ag_wo hA (fun j hj => dWt_lt j hj)] at hwo
      have hwv : wo (rw1 (S 170) (S 174) P N F k) (dWt (S 170) (rw1 (S 170) (S 174) P N F k) P N false) = wvl (S 170) (S 174) P N F k := rfl
      rw [hwv] at hwo
      have e17 : S2 17 = S1 17 := by rw [k4 17 (by decide), be 17 (by omega)]
      obtain ⟨X, x1, x2, x3⟩ := c_weighF (S := S2) (J := J) (T := T) (w := wvl (S 170) (S 174) P N F) (wvl_sm hy.1.1 hy.2.2.2.2.2.1 (by omega)) (k := k) (by omega) hb (by rw [e17]; exact h3)
      obtain ⟨S3, a1, a2, a3⟩ := ih (k + 1) g (stR S2 17 X) (ams1 (btr (wvl (S 170) (S 174) P N F)) k b) (by omega) (by omega) (by rw [stR_ne (by omega)]; exact t2) (by rw [stR_ne (by omega), k4 139 (by decide), be 139 (by omega)]; exact h2) (fun j hj => by
        have := ams_lt (l := fun _ => true) hb j (by unfold ams; rw [if_pos rfl]; exact hj)
        exact this) (by rw [stR_eq]; exact x2)
      refine ⟨S3, ?_, ?_, fr_tr (fr_tr (fr_tr (by rw [← hSb]; exact fr_st (fr_rf S1 _) (by decide)) (fr_mo k4 (by decide))) (fr_st (fr_rf S2 _) (by decide))) a3⟩
      · rw [← a1]
        have e0 : Sb t 0 = S t 0 := by rw [bt']
        conv => lhs; unfold lX2_seekWorth_34
        unfold fX2_seekWorth_34
        rw [if_neg (show ¬ nI f < nI k by rw [lt_eq (by omega) (by omega)]; exact hfk)]
        unfold fX2_seekWorth_40
        rw [kI_n, if_pos (of_decide_eq_true hl)]
        unfold fX2_seekWorth_49 fX2_seekWorth_52
        rw [pl_isO plA_22, Option.bind_some, hcp, Option.bind_some]
        unfold fX2_seekWorth_55
        rw [se_f4, Option.bind_some, tl_g0 htl, Option.bind_some, e0, kI_0]
        unfold fX2_seekWorth_69
        rw [ml_isO mlA_19, Option.bind_some, k1, Option.bind_some]
        unfold fX2_seekWorth_72 fX2_seekWorth_81
        rw [pl_isO plA_22, Option.bind_some, kI_0, hnd, Option.bind_some]
        unfold fX2_seekWorth_84
        rw [pl_isO plA_22, Option.bind_some, hwo, Option.bind_some]
        unfold fX2_seekWorth_87
        rw [se_isO, Option.bind_some, x1, Option.bind_some]
        unfold fX2_seekWorth_90
        rw [kI_1, nI_add]
      · show cSt _ _ (am _ _ m (k + 1) (ams _ _ k b))
        have e : ams (btr (wvl (S 170) (S 174) P N F)) (lF (nI f)) k b = ams1 (btr (wvl (S 170) (S 174) P N F)) k b := by unfold ams; rw [hl, if_pos rfl]
        rw [e]
        exact a2
set_option maxRecDepth 100000 in
set_option maxHeartbeats 400000 in
theorem c_sWorth (htl : tlA t) (ht0 : 56 ≤ t) (hy : Yes S t P N F U E) {S0 : Mem} (h0t : S0 t = S t) (h0n : S0 139 = S 139) : ∃ S' f, f < 2 ^ P ∧ fre (S 170) (S 174) F = nI f ∧ gX2_seekWorth 17 t 139 (hp S0 J T) = some (hp S' J T) ∧ cSt (wvl (S 170) (S 174) P N F) (S' 17) (am (btr (wvl (S 170) (S 174) P N F)) (lF (nI f)) (f + 1) 0 none) ∧ fr S0 S' [17, 19, 22] := by
  obtain ⟨f, hf, ef⟩ := fre_sm (r := S 170) (R := S 174) (F := F) hy.1.1.1 hy.1.1.2.1
  have hp32 := (ev_n P hy.1.1.2.1).2
  generalize hX : up (up (up (S0 17) 0 (nI 1000)) 1 (nI 0)) 2 m1 = X
  obtain ⟨S', a1, a2, a3⟩ := l_sw (S := S) (J := J) (T := T) htl ht0 hy (f := f) (by omega) (f + 1) 0 FU (stR S0 17 X) none (by omega) (FU_lt (by omega)) (by rw [stR_ne (by omega)]; exact h0t) (by rw [stR_ne (by omega)]; exact h0n) (fun j hj => by cases hj) (by rw [stR_eq, ← hX]; exact ⟨by rw [up_ne (by omega), up_ne (by omega), up_eq], by rw [up_ne (by omega), up_eq], up_eq⟩)
  refine ⟨S', f, hf, ef, ?_, a2, fr_tr (fr_st (fr_rf S0 _) (by decide)) a3⟩
  have hfr := c_free (S := stR S0 17 X) (J := J) (T := T) (a := 139) (t := t) (F := F) plA_139 htl (by rw [stR_ne (by omega), h0t, hy.2.1.1 5 (by omega)]; exact hy.1.2.2.1) hy.1.2.2.2.1
  rw [stR_ne (show t ≠ 17 by omega), stR_ne (show 139 ≠ 17 by omega), h0t, h0n, fre_ag hy.2.1 hy.2.2.2.2.1, ef] at hfr
  rw [← a1, ← hX]
  rw [← hX] at hfr
  unfold gX2_seekWorth fX2_seekWorth_0
  rw [se_p0, Option.bind_some, se_p1, Option.bind_some, se_p2, Option.bind_some, stS_R, stS_R, stS_R, stR_stR, stR_stR, stR_eq, stR_eq, kS_1000, kI_0, kI_n]
  unfold fX2_seekWorth_19
  rw [pl_isO plA_139, Option.bind_some, hfr, Option.bind_some]
  unfold fX2_seekWorth_22
  rw [se_f3, Option.bind_some, kI_0, se_r3 (by omega), Option.bind_some]
end BF2

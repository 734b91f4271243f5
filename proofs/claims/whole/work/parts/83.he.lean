-- HEARSAY: both begin
section HE1
variable {S S1 : Mem} {J : MeJ} {T : Nat → Nat} {t a w P N F U E D : Nat}
set_option maxRecDepth 100000 in
set_option maxHeartbeats 400000 in
theorem c_begin7 (ha : plA a) (htl : tlA t) (hta : t ≠ a) {s : Nat} (hU : S t 6 = nI U) (hU4 : U ≤ 4) (hu : ∀ k, k < U → ∃ p, p < 5 ∧ S t (51 + 2 * k) = nI p) : gX7_begin a t (nI s) (hp S J T) = some (hp (stR S a (bgC (S t) (S a) s U)) J T) := by
  have e0 : (fun j => if 0 ≤ j ∧ j < 0 + 5 then S t (100 + (j - 0)) else S a j) = fun j => if j < 5 then S t (100 + j) else S a j := by
    funext j
    by_cases h : j < 5
    · rw [if_pos (by omega), if_pos h]; rfl
    · rw [if_neg (by omega), if_neg h]
  have eb : ∀ A : Row, A = (fun j => if 0 ≤ j ∧ j < 0 + 5 then S t (100 + (j - 0)) else S a j) → flR (fun j => if 14 ≤ j ∧ j < 14 + 8 then S t (114 + (j - 14)) else A j) 5 (nI 0) 5 = bg0 (S t) (S a) := by
    intro A hA
    rw [hA, e0]
    funext j
    unfold flR bg0
    dsimp only
    repeat' split
    all_goals first
      | rfl
      | (exfalso; omega)
  have hl : lX7_begin_39 FU a t (nI s) (nI 0) (hp (stR S a (bg0 (S t) (S a))) J T) = some (hp (stR S a (bgC (S t) (S a) s U)) J T) := by
    refine for_loop lX7_begin_39 fX7_begin_39 (fun _ => rfl) (fun K k X => K a t (nI s) (nI k) (hp (stR S a X) J T)) (fun _ _ => True) U (uns (S t) s) (fun X => some (hp (stR S a (up (up (up (up X 10 (nI 0)) 11 (nI 0)) 12 (nI 0)) 13 (nI 0))) J T)) (fun K k X hk _ => ?_) (fun _ _ _ _ => trivial) (fun K X _ => ?_) U 0 FU (bg0 (S t) (S a)) (by omega) (FU_lt (by omega)) trivial
    · unfold uns
      obtain ⟨p, hp5, e⟩ := hu k hk
      cases h1 : bt (nI s) k with
      | false =>
        simp (disch := omega) only [gX7_begin, fX7_begin_0, fX7_begin_11, fX7_begin_14, fX7_begin_26, fX7_begin_29, fX7_begin_34, fX7_begin_37, fX7_begin_39, fX7_begin_47, fX7_begin_56, fX7_begin_73, fX7_begin_79, tl_f8 htl, tl_r8 htl, tl_w8 htl, kI_0, pl_f0 ha, pl_r0 ha, pl_w0 ha, kI_5, tl_f12 htl, tl_r12 htl, tl_w12 htl, pl_f2 ha, pl_r2 ha, pl_w2 ha, kB_8, pl_f1 ha, pl_r1 ha, pl_w1 ha, tl_g6 htl, kI_1, tl_f15 htl, tl_r15 htl, tl_w15 htl, tl_f16 htl, tl_r16 htl, tl_w16 htl, pl_p3 ha, pl_p4 ha, pl_p5 ha, pl_p6 ha, Option.bind_some, n35, n9, n19, n51, n59, nI_add, ix2, ix8, ix22, ix5, ↓reduceIte, stR_ne hta, hU, lt_eq, hk, bt_eq, h1, Bool.false_eq_true]
      | true =>
        have ec : cN2 (nI p) = p := by
          obtain ⟨a1, a2⟩ := sm_cN (x := nI p) (B := 4) ⟨p, by omega, rfl⟩ (by omega)
          rw [eq_eq (by omega) (by omega)] at a1
          exact a1.symm
        simp (disch := omega) only [gX7_begin, fX7_begin_0, fX7_begin_11, fX7_begin_14, fX7_begin_26, fX7_begin_29, fX7_begin_34, fX7_begin_37, fX7_begin_39, fX7_begin_47, fX7_begin_56, fX7_begin_73, fX7_begin_79, tl_f8 htl, tl_r8 htl, tl_w8 htl, kI_0, pl_f0 ha, pl_r0 ha, pl_w0 ha, kI_5, tl_f12 htl, tl_r12 htl, tl_w12 htl, pl_f2 ha, pl_r2 ha, pl_w2 ha, kB_8, pl_f1 ha, pl_r1 ha, pl_w1 ha, tl_g6 htl, kI_1, tl_f15 htl, tl_r15 htl, tl_w15 htl, tl_f16 htl, tl_r16 htl, tl_w16 htl, pl_p3 ha, pl_p4 ha, pl_p5 ha, pl_p6 ha, Option.bind_some, n35, n9, n19, n51, n59, nI_add, ix2, ix8, ix22, ix5, ↓reduceIte, stR_ne hta, hU, lt_eq, hk, bt_eq, h1, e, ec, stS_R, stR_stR, stR_eq]
    · simp (disch := omega) only [gX7_begin, fX7_begin_0, fX7_begin_11, fX7_begin_14, fX7_begin_26, fX7_begin_29, fX7_begin_34, fX7_begin_37, fX7_begin_39, fX7_begin_47, fX7_begin_56, fX7_begin_73, fX7_begin_79, tl_f8 htl, tl_r8 htl, tl_w8 htl, kI_0, pl_f0 ha, pl_r0 ha, pl_w0 ha, kI_5, tl_f12 htl, tl_r12 htl, tl_w12 htl, pl_f2 ha, pl_r2 ha, pl_w2 ha, kB_8, pl_f1 ha, pl_r1 ha, pl_w1 ha, tl_g6 htl, kI_1, tl_f15 htl, tl_r15 htl, tl_w15 htl, tl_f16 htl, tl_r16 htl, tl_w16 htl, pl_p3 ha, pl_p4 ha, pl_p5 ha, pl_p6 ha, Option.bind_some, n35, n9, n19, n51, n59, nI_add, ix2, ix8, ix22, ix5, ↓reduceIte, stR_ne hta, hU, lt_eq, Nat.lt_irrefl, stS_R, stR_stR, stR_eq]
  rw [← hl]
  simp (disch := omega) only [gX7_begin, fX7_begin_0, fX7_begin_11, fX7_begin_14, fX7_begin_26, fX7_begin_29, fX7_begin_34, fX7_begin_37, tl_f8 htl, tl_f12 htl, pl_f0 ha, pl_f1 ha, pl_f2 ha, kI_5, kI_0, kB_8, tl_c8 htl ha, tl_c12 htl ha, Option.bind_some, cpS_R, stR_ne hta, stR_eq, stR_stR, c_fill (c := a + 2) (b := a) (o := 5) (n := 5) ha.2.2.1 (show 5 < 100 by omega)]
  rw [eb _ rfl]
set_option maxRecDepth 100000 in
set_option maxHeartbeats 400000 in
theorem m_begin (hU : S 170 6 = nI U) (hU4 : U ≤ 4) (hu : ∀ k, k < U → ∃ p, p < 5 ∧ S 170 (51 + 2 * k) = nI p) {s : Nat} : gX11_wrongBy 167 (nI s) (hp S J T) = fX11_wrongBy_71 167 (hp (stR S 175 (bgM (S 170) (S 172) (S 175) s U)) J T) := by
  have hl : lX11_wrongBy_17 FU 167 (nI s) (nI 0) (hp (stR S 175 (cpR (S 172) (S 175) 22)) J T) = fX11_wrongBy_71 167 (hp (stR S 175 (bgM (S 170) (S 172) (S 175) s U)) J T) := by
    refine for_loop lX11_wrongBy_17 fX11_wrongBy_17 (fun _ => rfl) (fun K k X => K 167 (nI s) (nI k) (hp (stR S 175 X) J T)) (fun _ _ => True) U (uns (S 170) s) (fun X => fX11_wrongBy_71 167 (hp (stR S 175 X) J T)) (fun K k X hk _ => ?_) (fun _ _ _ _ => trivial) (fun K X _ => ?_) U 0 FU (cpR (S 172) (S 175) 22) (by omega) (FU_lt (by omega)) trivial
    · unfold uns
      obtain ⟨p, hp5, e⟩ := hu k hk
      cases h1 : bt (nI s) k with
      | false =>
        simp (disch := omega) only [fX11_wrongBy_17, fX11_wrongBy_28, fX11_wrongBy_30, fX11_wrongBy_33, fX11_wrongBy_65, mo_f15, mo_r15, kB_6, kI_1, nI_add, Option.bind_some, ↓reduceIte, stR_ne (show 170 ≠ 175 by omega), hU, lt_eq, hk, c_hasBit (show k < 32 by omega), h1, bI_f, n0_0, Bool.false_eq_true, if_false]
      | true =>
        have ec : cN2 (nI p) = p := by
          obtain ⟨a1, a2⟩ := sm_cN (x := nI p) (B := 4) ⟨p, by omega, rfl⟩ (by omega)
          rw [eq_eq (by omega) (by omega)] at a1
          exact a1.symm
        simp (disch := omega) only [fX11_wrongBy_17, fX11_wrongBy_28, fX11_wrongBy_30, fX11_wrongBy_33, fX11_wrongBy_36, fX11_wrongBy_65, mo_f15, mo_r15, mo_f20, kB_6, kB_51, kI_1, kI_2, nI_add, n51, ix2, Option.bind_some, ↓reduceIte, stR_ne (show 170 ≠ 175 by omega), hU, lt_eq, hk, c_hasBit (show k < 32 by omega), h1, bI_t, n1_0, e, ec, rw_w rwA_175, stS_R, stR_stR, stR_eq]
    · simp (disch := omega) only [fX11_wrongBy_17, mo_f15, mo_r15, kB_6, Option.bind_some, ↓reduceIte, stR_ne (show 170 ≠ 175 by omega), hU, lt_eq, Nat.lt_irrefl]
  rw [← hl]
  simp (disch := omega) only [gX11_wrongBy, fX11_wrongBy_0, fX11_wrongBy_12, fX11_wrongBy_15, mo_f17, mo_f20, kB_22, kI_0, Option.bind_some, c_cpy (c1 := 172) (c2 := 175) (n1 := 22) (n2 := 22) rfl rfl (by omega) (show 0 + 22 ≤ 22 by omega) (show 0 + 22 ≤ 22 by omega) (by omega) (by omega), cpA_22]
end HE1

-- HEARSAY: the reference seeks the sets
def skS (r Z : Row) (P N F U E : Nat) (v1 : Int32) (s : Nat) (q : Int32 × Int32 × Int32 × Int32 × Row) : Int32 × Int32 × Int32 × Int32 × Row := if fi r Z P N F U E s = true then (if q.2.1 = v1 then nI s else q.1, q.2.1 + nI 1, q.2.2.1 ||| nI s, q.2.2.2.1 &&& nI s, itr (wiS s) U 0 q.2.2.2.2) else q
def skI (S0 S1 : Mem) (q : Int32 × Int32 × Int32 × Int32 × Row) : Prop := S1 167 37 = q.2.1 ∧ S1 167 38 = q.2.2.1 ∧ S1 167 39 = q.2.2.2.1 ∧ S1 180 = q.2.2.2.2 ∧ fr S0 S1 [167, 175, 178, 179, 180] ∧ ∀ j, j ≠ 25 → j ≠ 26 → j ≠ 37 → j ≠ 38 → j ≠ 39 → S1 167 j = S0 167 j
section HE10
variable {S S0 : Mem} {J : MeJ} {T : Nat → Nat} {t P N F U E : Nat}
set_option maxRecDepth 100000 in
set_option maxHeartbeats 400000 in
theorem l_seek (hy : Yes S t P N F U E) (h0r : S0 170 = S 170) (h0s : S0 172 = S 172) {v1 : Int32} : ∀ m k g S1 q, k + m = 2 ^ U → m < g → skI S0 S1 q → ∃ S', lX11_seekSets_49 g 167 v1 q.1 (nI k) (hp S1 J T) = fX11_seekSets_158 167 (itr (skS (S 170) (S 172) P N F U E v1) m k q).1 (hp S' J T) ∧ skI S0 S' (itr (skS (S 170) (S 172) P N F U E v1) m k q) := by
  have hP5 : P ≤ 5 := hy.1.1.2.1
  have hE6 : E ≤ 6 := hy.1.2.2.2.2.2.2.2.1
  have hU4 : U ≤ 4 := hy.1.2.2.2.2.2.1
  have hUr : S 170 6 = nI U := hy.1.2.2.2.2.1
  obtain ⟨p1, p2⟩ := pw_U U (by omega)
  intro m
  induction m with
  | zero =>
    intro k g S1 q hk hg h1
    obtain ⟨g, rfl⟩ : ∃ x, g = x + 1 := ⟨g - 1, by omega⟩
    obtain rfl : k = 2 ^ U := by omega
    have e170 : S1 170 = S 170 := by rw [h1.2.2.2.2.1 170 (by decide)]; exact h0r
    refine ⟨S1, ?_, h1⟩
    unfold lX11_seekSets_49
    simp (disch := omega) only [fX11_seekSets_49, mo_f15, mo_r15, e170, hUr, kB_6, kI_1, p1, lt_eq, Nat.lt_irrefl, Option.bind_some, ↓reduceIte]
    rfl
  | succ m ih =>
    intro k g S1 q hk hg h1
    obtain ⟨g, rfl⟩ : ∃ x, g = x + 1 := ⟨g - 1, by omega⟩
    obtain ⟨i1, i2, i3, i4, i5, i6⟩ := id h1
    have e170 : S1 170 = S 170 := by rw [i5 170 (by decide)]; exact h0r
    obtain ⟨S2, w1, w2, w3⟩ := c_wrong (S := S) (S0 := S1) (J := J) (T := T) (s := k) hy e170 (by rw [i5 172 (by decide)]; exact h0s) (Q := bgC (S t) (S 40) k U) (y_bg hy (S 40) (S1 175) k)
    rw [bF_cg (q := bd (S 170) P N F (bgM (S 170) (S 172) (S 172) k U) (hdF (S 170))) (fun j hj => bd_ag (agT_rf _ P N F) (y_bg hy (S 40) (S 172) k) hP5 (U := 0) (E := E) ⟨fun k hk => by omega, fun k hk => ⟨rfl, rfl⟩⟩ j hj)] at w1
    have h2 : skI S0 S2 q := ⟨by rw [w3 37 (by omega) (by omega)]; exact i1, by rw [w3 38 (by omega) (by omega)]; exact i2, by rw [w3 39 (by omega) (by omega)]; exact i3, by rw [w2 180 (by decide)]; exact i4, fr_tr i5 (fr_mo w2 (by decide)), fun j a b c d e => by rw [w3 j a b]; exact i6 j a b c d e⟩
    obtain ⟨j1, j2, j3, j4, j5, j6⟩ := id h2
    have f170 : S2 170 = S 170 := by rw [j5 170 (by decide)]; exact h0r
    show ∃ S', _ = fX11_seekSets_158 167 (itr _ m (k + 1) (skS (S 170) (S 172) P N F U E v1 k q)).1 _ ∧ skI S0 S' (itr _ m (k + 1) (skS (S 170) (S 172) P N F U E v1 k q))
    cases hc : bF (bd (S 170) P N F (bgM (S 170) (S 172) (S 172) k U) (hdF (S 170))) E 0 with
    | some i =>
      have hi := bF_lt hc
      have hf : skS (S 170) (S 172) P N F U E v1 k q = q := by unfold skS fi; rw [hc]; rfl
      rw [hc] at w1
      rw [hf]
      obtain ⟨S3, k1, k2⟩ := ih (k + 1) g S2 q (by omega) (by omega) h2
      refine ⟨S3, ?_, k2⟩
      rw [← k1]
      have hne : (nI i = oi none) = False := eq_false (fun z => by have := on_nI (k := i) (by omega); rw [z] at this; exact this.mp rfl)
      conv => lhs; unfold lX11_seekSets_49
      simp (disch := omega) only [fX11_seekSets_49, fX11_seekSets_62, fX11_seekSets_64, fX11_seekSets_67, fX11_seekSets_72, fX11_seekSets_152, mo_isO, mo_f15, mo_r15, e170, hUr, kB_6, kB_o, kI_1, p1, lt_eq, show k < 2 ^ U by omega, Option.bind_some, ↓reduceIte, w1, oi_some, hne, nI_add]
    | none =>
      have hf : skS (S 170) (S 172) P N F U E v1 k q = (if q.2.1 = v1 then nI k else q.1, q.2.1 + nI 1, q.2.2.1 ||| nI k, q.2.2.2.1 &&& nI k, itr (wiS k) U 0 q.2.2.2.2) := by unfold skS fi; rw [hc]; rfl
      rw [hc] at w1
      rw [hf]
      generalize hY : up (up (up (S2 167) 37 (q.2.1 + nI 1)) 38 (q.2.2.1 ||| nI k)) 39 (q.2.2.2.1 &&& nI k) = Y
      obtain ⟨S3, k1, k2⟩ := ih (k + 1) g (stR (stR S2 167 Y) 180 (itr (wiS k) U 0 q.2.2.2.2)) (if q.2.1 = v1 then nI k else q.1, q.2.1 + nI 1, q.2.2.1 ||| nI k, q.2.2.2.1 &&& nI k, itr (wiS k) U 0 q.2.2.2.2) (by omega) (by omega) ⟨by rw [stR_ne (by omega), stR_eq, ← hY, up_ne (by omega), up_ne (by omega), up_eq], by rw [stR_ne (by omega), stR_eq, ← hY, up_ne (by omega), up_eq], by rw [stR_ne (by omega), stR_eq, ← hY, up_eq], stR_eq, fr_st (fr_st j5 (by decide)) (by decide), fun j a b c d e => by rw [stR_ne (by omega), stR_eq, ← hY, up_ne e, up_ne d, up_ne c]; exact j6 j a b c d e⟩
      refine ⟨S3, ?_, k2⟩
      rw [← k1]
      have hl := fun v => l_s118 (S := stR S2 167 Y) (J := J) (T := T) (U := U) (s := k) (v1 := v1) (v2 := v) (by rw [stR_ne (by omega), f170]; exact hUr) hU4 (lX11_seekSets_49 g)
      rw [stR_ne (show 180 ≠ 167 by omega), j4] at hl
      conv => lhs; unfold lX11_seekSets_49
      by_cases hv : q.2.1 = v1
      · rw [if_pos hv]
        simp (disch := omega) only [fX11_seekSets_49, fX11_seekSets_62, fX11_seekSets_64, fX11_seekSets_67, fX11_seekSets_75, fX11_seekSets_83, fX11_seekSets_85, mo_isO, mo_f15, mo_r15, e170, hUr, kB_6, kB_o, kI_0, kI_1, p1, lt_eq, show k < 2 ^ U by omega, Option.bind_some, ↓reduceIte, w1, mo_g37, mo_g38, mo_g39, mo_p37, mo_p38, mo_p39, j1, j2, j3, hv, stS_R, stR_stR, stR_eq, up_ne, hY, hl, fX11_seekSets_152, nI_add]
        rw [← hv, hY, hv, hl]
        simp only [fX11_seekSets_152, kI_1, nI_add]
      · rw [if_neg hv]
        simp (disch := omega) only [fX11_seekSets_49, fX11_seekSets_62, fX11_seekSets_64, fX11_seekSets_67, fX11_seekSets_75, fX11_seekSets_85, mo_isO, mo_f15, mo_r15, e170, hUr, kB_6, kB_o, kI_0, kI_1, p1, lt_eq, show k < 2 ^ U by omega, Option.bind_some, ↓reduceIte, w1, mo_g37, mo_g38, mo_g39, mo_p37, mo_p38, mo_p39, j1, j2, j3, hv, stS_R, stR_stR, stR_eq, up_ne, hY, hl, fX11_seekSets_152, nI_add]
end HE10

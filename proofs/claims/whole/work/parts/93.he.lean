-- HEARSAY: the reference has sought
def z4 (X : Row) : Row := itr (fun k X => up X k (nI 0)) 4 0 X
def skQ (r Z : Row) (P N F U E : Nat) (v1 : Int32) (X : Row) : Int32 × Int32 × Int32 × Int32 × Row := itr (skS r Z P N F U E v1) (2 ^ U) 0 (m1, nI 0, nI 0, nI (2 ^ U - 1), z4 X)
set_option maxRecDepth 100000 in
set_option maxHeartbeats 400000 in
theorem pw_V : ∀ U, U < 5 → (nI 1 <<< (nI U &&& 31)) - nI 1 = nI (2 ^ U - 1) := by decide
section HE11
variable {S S0 : Mem} {J : MeJ} {T : Nat → Nat} {t P N F U E : Nat}
set_option maxRecDepth 100000 in
set_option maxHeartbeats 400000 in
theorem l_s29 {v1 v2 : Int32} : lX11_seekSets_29 FU 167 v1 v2 (nI 0) (hp S J T) = fX11_seekSets_47 167 v1 v2 (hp (stR S 180 (z4 (S 180))) J T) := by
  have hz : hp S J T = hp (stR S 180 (S 180)) J T := by rw [stR_id]
  conv => lhs; rw [hz]
  refine for_loop lX11_seekSets_29 fX11_seekSets_29 (fun _ => rfl) (fun K' k X => K' 167 v1 v2 (nI k) (hp (stR S 180 X) J T)) (fun _ _ => True) 4 (fun k X => up X k (nI 0)) (fun X => fX11_seekSets_47 167 v1 v2 (hp (stR S 180 X) J T)) (fun K' k X hk _ => ?_) (fun _ _ _ _ => trivial) (fun K' X _ => ?_) 4 0 FU (S 180) (by omega) (FU_lt (by omega)) trivial
  · simp (disch := omega) only [fX11_seekSets_29, fX11_seekSets_34, mo_f36, mo_w36, kI_0, kI_1, kI_4, lt_eq, hk, Option.bind_some, ↓reduceIte, stS_R, stR_stR, stR_eq, nI_add]
  · simp (disch := omega) only [fX11_seekSets_29, kI_4, lt_eq, Nat.lt_irrefl, ↓reduceIte]
set_option maxRecDepth 100000 in
set_option maxHeartbeats 400000 in
theorem c_seek (hy : Yes S t P N F U E) (h0r : S0 170 = S 170) (h0s : S0 172 = S 172) {v1 : Int32} : ∃ S', gX11_seekSets 167 v1 (hp S0 J T) = some ((skQ (S 170) (S 172) P N F U E v1 (S0 180)).1, hp S' J T) ∧ S' 167 37 = (skQ (S 170) (S 172) P N F U E v1 (S0 180)).2.1 ∧ S' 167 38 = (skQ (S 170) (S 172) P N F U E v1 (S0 180)).2.2.1 ∧ S' 167 39 = (if (skQ (S 170) (S 172) P N F U E v1 (S0 180)).2.1 = 0 then nI 0 else (skQ (S 170) (S 172) P N F U E v1 (S0 180)).2.2.2.1) ∧ S' 180 = (skQ (S 170) (S 172) P N F U E v1 (S0 180)).2.2.2.2 ∧ fr S0 S' [167, 175, 178, 179, 180] ∧ ∀ j, j ≠ 25 → j ≠ 26 → j ≠ 37 → j ≠ 38 → j ≠ 39 → S' 167 j = S0 167 j := by
  have hU4 : U ≤ 4 := hy.1.2.2.2.2.2.1
  have hUr : S0 170 6 = nI U := by rw [h0r]; exact hy.1.2.2.2.2.1
  obtain ⟨p1, p2⟩ := pw_U U (by omega)
  have p3 := pw_V U (by omega)
  generalize hY : up (up (up (S0 167) 37 (nI 0)) 38 (nI 0)) 39 (nI (2 ^ U - 1)) = Y
  have hl := l_s29 (S := stR S0 167 Y) (J := J) (T := T) (v1 := v1) (v2 := m1)
  rw [stR_ne (show 180 ≠ 167 by omega)] at hl
  have e1 : gX11_seekSets 167 v1 (hp S0 J T) = lX11_seekSets_49 FU 167 v1 m1 (nI 0) (hp (stR (stR S0 167 Y) 180 (z4 (S0 180))) J T) := by
    have e2 : fX11_seekSets_47 167 v1 m1 (hp (stR (stR S0 167 Y) 180 (z4 (S0 180))) J T) = lX11_seekSets_49 FU 167 v1 m1 (nI 0) (hp (stR (stR S0 167 Y) 180 (z4 (S0 180))) J T) := by simp only [fX11_seekSets_47, kI_0]
    rw [← e2, ← hl]
    simp (disch := omega) only [gX11_seekSets, fX11_seekSets_0, mo_p37, mo_p38, mo_p39, mo_f15, mo_r15, stR_ne (show 170 ≠ 167 by omega), hUr, kB_6, kI_0, kI_1, kI_n, p3, Option.bind_some, stS_R, stR_stR, stR_eq, hY]
  obtain ⟨S1, k1, k2⟩ := l_seek (S := S) (S0 := S0) (J := J) (T := T) hy h0r h0s (v1 := v1) (2 ^ U) 0 FU (stR (stR S0 167 Y) 180 (z4 (S0 180))) (m1, nI 0, nI 0, nI (2 ^ U - 1), z4 (S0 180)) (by omega) (FU_lt (by omega)) ⟨by rw [stR_ne (by omega), stR_eq, ← hY, up_ne (by omega), up_ne (by omega), up_eq], by rw [stR_ne (by omega), stR_eq, ← hY, up_ne (by omega), up_eq], by rw [stR_ne (by omega), stR_eq, ← hY, up_eq], stR_eq, fr_st (fr_st (fr_rf S0 _) (by decide)) (by decide), fun j a b c d e => by rw [stR_ne (by omega), stR_eq, ← hY, up_ne e, up_ne d, up_ne c]⟩
  have hq : itr (skS (S 170) (S 172) P N F U E v1) (2 ^ U) 0 (m1, nI 0, nI 0, nI (2 ^ U - 1), z4 (S0 180)) = skQ (S 170) (S 172) P N F U E v1 (S0 180) := rfl
  rw [hq] at k1 k2
  generalize skQ (S 170) (S 172) P N F U E v1 (S0 180) = q at k1 k2 ⊢
  obtain ⟨i1, i2, i3, i4, i5, i6⟩ := k2
  rw [e1]
  by_cases hz : q.2.1 = 0
  · refine ⟨stR S1 167 (up (S1 167) 39 (nI 0)), ?_, by rw [stR_eq, up_ne (by omega)]; exact i1, by rw [stR_eq, up_ne (by omega)]; exact i2, by rw [stR_eq, up_eq, if_pos hz], by rw [stR_ne (by omega)]; exact i4, fr_st i5 (by decide), fun j a b c d e => by rw [stR_eq, up_ne e]; exact i6 j a b c d e⟩
    refine Eq.trans k1 ?_
    simp (disch := omega) only [fX11_seekSets_158, fX11_seekSets_165, fX11_seekSets_170, mo_g37, mo_p39, i1, hz, kI_0, Option.bind_some, ↓reduceIte, stS_R]
  · refine ⟨S1, ?_, i1, i2, by rw [if_neg hz]; exact i3, i4, i5, i6⟩
    refine Eq.trans k1 ?_
    simp (disch := omega) only [fX11_seekSets_158, fX11_seekSets_170, mo_g37, i1, hz, Option.bind_some, ↓reduceIte]
end HE11

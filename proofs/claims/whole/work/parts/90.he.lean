-- HEARSAY: the class has weighed
def wgF (X : Row) : Row := if X 0 = 0 then up X 2 (nI 0) else X
def wg0 (X : Row) : Row := up (up (up (up X 3 (nI 0)) 0 (nI 0)) 1 (nI 0)) 2 m1
section HE8
variable {S S0 : Mem} {J : MeJ} {T : Nat → Nat} {t P N F U E : Nat}
set_option maxRecDepth 100000 in
set_option maxHeartbeats 400000 in
theorem c_weigh (htl : tlA t) (ht0 : 56 ≤ t) (hy : Yes S t P N F U E) (h0t : S0 t = S t) : ∃ S', gX3_weigh 38 t (hp S0 J T) = some (hp S' J T) ∧ S' 38 = wgF (itr (wgS (S 170) (S 172) P N F U E) (2 ^ U) 0 (wg0 (S0 38))) ∧ fr S0 S' [38, 39, 40, 44] := by
  have hU4 : U ≤ 4 := hy.1.2.2.2.2.2.1
  obtain ⟨p1, p2⟩ := pw_U U (by omega)
  obtain ⟨S1, k1, k2, k3⟩ := l_weigh (S := S) (J := J) (T := T) htl ht0 hy (2 ^ U) 0 FU (stR S0 38 (wg0 (S0 38))) (by omega) (FU_lt (by omega)) (by rw [stR_ne (by omega)]; exact h0t)
  rw [stR_eq] at k2
  have e1 : gX3_weigh 38 t (hp S0 J T) = lX3_weigh_22 FU 38 t (nI 0) (hp (stR S0 38 (wg0 (S0 38))) J T) := by
    unfold wg0
    simp (disch := omega) only [gX3_weigh, fX3_weigh_0, he_p0, he_p1, he_p2, he_p3, kI_0, kI_n, Option.bind_some, stS_R, stR_stR, stR_eq]
  rw [e1, k1]
  by_cases hz : S1 38 0 = 0
  · refine ⟨stR S1 38 (up (S1 38) 2 (nI 0)), ?_, ?_, fr_st (fr_tr (fr_st (fr_rf S0 _) (by decide)) k3) (by decide)⟩
    · simp (disch := omega) only [fX3_weigh_95, fX3_weigh_102, fX3_weigh_107, he_g0, he_p2, hz, kI_0, Option.bind_some, ↓reduceIte, stS_R]
    · rw [stR_eq, ← k2]
      unfold wgF
      rw [if_pos hz]
  · refine ⟨S1, ?_, ?_, fr_tr (fr_st (fr_rf S0 _) (by decide)) k3⟩
    · simp (disch := omega) only [fX3_weigh_95, fX3_weigh_107, he_g0, hz, Option.bind_some, ↓reduceIte]
    · rw [← k2]
      unfold wgF
      rw [if_neg hz]
end HE8

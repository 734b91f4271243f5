-- THE TEXT, the reference: a told name
section RM6
variable {S : Mem} {J : MeJ} {T : Nat → Nat} {y : Nat → Nat} {n s : Nat} {W : WL}
set_option maxRecDepth 100000 in
set_option maxHeartbeats 400000 in
theorem c_nmdF (h : S 167 13 = nI 1) {lo hi : Int32} : gX11_namedHere 167 lo hi (hp S J T) = some (nI 0, hp S J T) := by
  unfold gX11_namedHere fX11_namedHere_0
  rw [mo_g13, Option.bind_some, h, if_neg (show ¬ nI 1 = 0 by decide)]
  unfold fX11_namedHere_7
  rw [kI_0]
set_option maxRecDepth 100000 in
set_option maxHeartbeats 400000 in
theorem c_nmd (h : tM S y n s) (hW : wrM S y W) (hy : ∀ i, tkK y n s = 2 → i < tkE y n s - s → y (s + i) < 5000) {lo hi : Nat} (hlo : lo < 13) (hhi : hi < 13) (hm : m1 < nI lo) : ∃ S' v, gX11_namedHere 167 (nI lo) (nI hi) (hp S J T) = some (v, hp S' J T) ∧ outM S' (pTd y n W lo hi s) (fun p => v = nI p ∧ S' = S) ∧ frM S S' := by
  have h13 := h.2.2.2.1
  obtain ⟨S1, a1, ⟨a2, a3⟩, a4⟩ := c_mNm (J := J) (T := T) h
  have e0 : gX11_namedHere 167 (nI lo) (nI hi) (hp S J T) = fX11_namedHere_13 167 (nI lo) (nI hi) (hp S1 J T) := by
    unfold gX11_namedHere fX11_namedHere_0
    rw [mo_g13, Option.bind_some, h13, if_pos (show nI 0 = 0 from rfl)]
    unfold fX11_namedHere_9 fX11_namedHere_10
    rw [mo_isO, Option.bind_some, a1, Option.bind_some]
  rw [e0]
  unfold fX11_namedHere_13 pTd pNm
  rw [mo_g13, Option.bind_some]
  by_cases z : tkK y n s = 2 ∧ lsN y n s = none
  · rw [a2 z, h13, if_pos (show nI 0 = 0 from rfl), if_pos z]
    obtain ⟨t1, t2, t3, t4, t5⟩ := tk2 z.1
    obtain ⟨l1, l2⟩ := h.2.2.2.2.2.2.2.2 z.1
    have ef := c_find (J := J) (T := T) (s := s) hW l1 t3 (fun i hi => ⟨l2 i hi, hy i z.1 hi⟩)
    obtain ⟨S4, g1, g2, g3⟩ := c_wrg (J := J) (T := T) h13 2 s
    have e36 : ∀ v, fX11_namedHere_36 167 (nI lo) v (hp S J T) = some (nI 0, hp S4 J T) := fun v => by
      unfold fX11_namedHere_36 fX11_namedHere_42
      rw [mo_g4, Option.bind_some, h.2.2.2.2.1, mo_isO, Option.bind_some, kI_2, g1, Option.bind_some]
      unfold fX11_namedHere_45
      rw [mo_g13, Option.bind_some, g2.1, if_neg (show ¬ nI 1 = 0 by decide)]
      unfold fX11_namedHere_52 fX11_namedHere_59
      rw [kI_0]
    unfold fX11_namedHere_22 fX11_namedHere_23
    rw [mo_isO, Option.bind_some, ef, Option.bind_some]
    unfold fX11_namedHere_26 fX11_namedHere_30
    rw [c_in, Option.bind_some]
    unfold fX11_namedHere_33
    show ∃ S' v, _ ∧ outM S' (match fdW y s (tkE y n s - s) W with
      | none => .inl (2, s)
      | some c => if lo ≤ c ∧ c ≤ hi then .inr (c - lo) else .inl (2, s)) _ ∧ _
    cases zf : fdW y s (tkE y n s - s) W with
    | none =>
      have ei : inB (om none) (nI lo) (nI hi) = false := decide_eq_false (fun q => q.1 hm)
      rw [ei, if_pos (show bI false = 0 by decide)]
      exact ⟨S4, nI 0, e36 _, g2, g3⟩
    | some c =>
      obtain ⟨w, q1, q2⟩ := fdW_mem zf
      have hc := (hW.2.1 w q1).1
      have ei : inB (om (some c)) (nI lo) (nI hi) = decide (lo ≤ c ∧ c ≤ hi) := inBd (by omega) (by omega) (by omega)
      rw [ei]
      show ∃ S' v, _ ∧ outM S' (if lo ≤ c ∧ c ≤ hi then .inr (c - lo) else .inl (2, s)) _ ∧ _
      by_cases zc : lo ≤ c ∧ c ≤ hi
      · rw [decide_eq_true zc, if_neg (show ¬ bI true = 0 by decide), if_pos zc]
        refine ⟨S, nI (c - lo), ?_, ⟨rfl, rfl⟩, frM_rf S⟩
        unfold fX11_namedHere_45
        rw [mo_g13, Option.bind_some, h13, if_pos (show nI 0 = 0 from rfl)]
        unfold fX11_namedHere_56 fX11_namedHere_59
        rw [show om (some c) = nI c from rfl, nI_sub zc.1]
      · rw [decide_eq_false zc, if_pos (show bI false = 0 by decide), if_neg zc]
        exact ⟨S4, nI 0, e36 _, g2, g3⟩
  · have hF := a3 z
    rw [hF.1, if_neg (show ¬ nI 1 = 0 by decide), if_neg z]
    refine ⟨S1, nI 0, ?_, hF, a4⟩
    unfold fX11_namedHere_20
    rw [kI_0]
end RM6

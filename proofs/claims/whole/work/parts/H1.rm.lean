-- THE TEXT, the reference: a number after a word, a name
set_option maxRecDepth 100000 in
set_option maxHeartbeats 400000 in
theorem mk_2 {k : Nat} (hK : k ≤ 4) : (nI (mkT k) = nI 2) = (k = 2) := by
  unfold mkT
  split
  · exact (eq_false (by decide)).trans (eq_false (by omega)).symm
  · exact eq_eq (by omega) (by omega)
section RM1
variable {S : Mem} {J : MeJ} {T : Nat → Nat} {y : Nat → Nat} {n s : Nat}
set_option maxRecDepth 100000 in
set_option maxHeartbeats 400000 in
theorem c_passF (h : S 167 13 = nI 1) : gX11_pass 167 (hp S J T) = some (hp S J T) := by
  unfold gX11_pass fX11_pass_0
  rw [mo_g13, Option.bind_some, h, if_neg (show ¬ nI 1 = 0 by decide)]
  rfl
set_option maxRecDepth 100000 in
set_option maxHeartbeats 400000 in
theorem c_pasM (h : tM S y n s) (hk : tkK y n s ≠ 1) : ∃ S', gX11_pass 167 (hp S J T) = some (hp S' J T) ∧ tM S' y n (nx y n s) ∧ frM S S' := by
  obtain ⟨S4, g1, g2, g3⟩ := s_nextM (J := J) (T := T) h hk
  refine ⟨S4, ?_, g2, g3⟩
  unfold gX11_pass fX11_pass_0
  rw [mo_g13, Option.bind_some, h.2.2.2.1, if_pos (show nI 0 = 0 from rfl)]
  unfold fX11_pass_7 fX11_pass_8
  rw [mo_isO, Option.bind_some, g1, Option.bind_some]
  rfl
set_option maxRecDepth 100000 in
set_option maxHeartbeats 400000 in
theorem c_num (h : tM S y n s) {lo hi : Nat} (hlo : lo < 5000) (hhi : hi < 5000) : ∃ S' v, gX11_number 167 (nI lo) (nI hi) (hp S J T) = some (v, hp S' J T) ∧ outM S' (pNu y n lo hi s) (fun w => v = nI w ∧ tM S' y n (nx y n s)) ∧ frM S S' := by
  obtain ⟨S1, v, a1, a2, a3⟩ := c_nHM (J := J) (T := T) h hlo hhi
  unfold gX11_number fX11_number_0 fX11_number_3
  rw [mo_isO, Option.bind_some, a1, Option.bind_some]
  unfold fX11_number_6 fX11_number_8
  rw [mo_isO, Option.bind_some]
  cases hq : pNu y n lo hi s with
  | inl e =>
    rw [hq] at a2
    refine ⟨S1, v, ?_, a2, a3⟩
    rw [c_passF a2.1, Option.bind_some]
    rfl
  | inr w =>
    rw [hq] at a2
    obtain ⟨b1, b2, b3⟩ := a2
    obtain ⟨S4, g1, g2, g3⟩ := c_pasM (J := J) (T := T) h (by omega)
    refine ⟨S4, v, ?_, ⟨b1, g2⟩, g3⟩
    rw [b2, g1, Option.bind_some]
    rfl
set_option maxRecDepth 100000 in
set_option maxHeartbeats 400000 in
theorem c_aftF (h : S 167 13 = nI 1) {i : Nat} {lo hi : Int32} : gX11_after 167 i lo hi (hp S J T) = some (lo, hp S J T) := by
  unfold gX11_after fX11_after_0 fX11_after_2
  rw [mo_isO, Option.bind_some, c_mustF h, Option.bind_some]
  unfold fX11_after_5 fX11_after_8
  rw [mo_isO, Option.bind_some, c_numF h, Option.bind_some]
  rfl
set_option maxRecDepth 100000 in
set_option maxHeartbeats 400000 in
theorem c_aft (h : tM S y n s) {i lo hi : Nat} (hi34 : i < 34) (hlo : lo < 5000) (hhi : hi < 5000) : ∃ S' v, gX11_after 167 (SB + i) (nI lo) (nI hi) (hp S J T) = some (v, hp S' J T) ∧ outM S' (pA y n (stN i) lo hi s) (fun w => v = nI w.1 ∧ tM S' y n (nx y n w.2)) ∧ frM S S' := by
  obtain ⟨S1, a1, a2, a3⟩ := c_must (J := J) (T := T) h hi34
  unfold gX11_after fX11_after_0 fX11_after_2 pA
  rw [mo_isO, Option.bind_some, a1, Option.bind_some]
  unfold fX11_after_5 fX11_after_8
  rw [mo_isO, Option.bind_some]
  cases hq : pW y n (stN i) s with
  | inl e =>
    rw [hq] at a2
    refine ⟨S1, nI lo, ?_, a2, a3⟩
    rw [c_numF a2.1, Option.bind_some]
    rfl
  | inr s1 =>
    rw [hq] at a2
    have a2' : tM S1 y n s1 := a2
    obtain ⟨S2, v, b1, b2, b3⟩ := c_num (J := J) (T := T) a2' hlo hhi
    refine ⟨S2, v, ?_, ?_, frM_tr a3 b3⟩
    · rw [b1, Option.bind_some]
      rfl
    · show outM S2 (bdP (pNu y n lo hi s1) fun v => .inr (v, s1)) _
      cases hz : pNu y n lo hi s1 with
      | inl e => rw [hz] at b2; exact b2
      | inr w => rw [hz] at b2; exact b2
set_option maxRecDepth 100000 in
set_option maxHeartbeats 400000 in
theorem c_mNm (h : tM S y n s) : ∃ S', gX11_mustName 167 (hp S J T) = some (hp S' J T) ∧ ((tkK y n s = 2 ∧ lsN y n s = none → S' = S) ∧ (¬ (tkK y n s = 2 ∧ lsN y n s = none) → fTM S' (1, s))) ∧ frM S S' := by
  have h13 := h.2.2.2.1
  have hK := tkK_le y n s
  obtain ⟨S4, g1, g2, g3⟩ := c_wrg (J := J) (T := T) h13 1 s
  have e62 : fX11_mustName_62 167 (hp S J T) = some (hp S4 J T) := by
    unfold fX11_mustName_62 fX11_mustName_68
    rw [mo_g4, Option.bind_some, h.2.2.2.2.1, mo_isO, Option.bind_some, kI_1, g1, Option.bind_some]
    rfl
  unfold gX11_mustName fX11_mustName_0
  rw [mo_g6, Option.bind_some, h.2.2.2.2.2.2.1, kI_2]
  by_cases zk : tkK y n s = 2
  · rw [if_pos ((mk_2 hK).mpr zk)]
    unfold lsN
    unfold fX11_mustName_8 fX11_mustName_9 fX11_mustName_11
    rw [mo_isO, Option.bind_some, c_isWM h (by omega), Option.bind_some, show stN 17 = 0 from rfl]
    unfold fX11_mustName_14
    cases z0 : wdB y n s 0 with
    | true =>
      rw [if_neg (show ¬ bI true = 0 by decide), if_pos rfl]
      exact ⟨S4, e62, ⟨(fun z => by have q := z.2; cases q), fun _ => g2⟩, g3⟩
    | false =>
      rw [if_pos (show bI false = 0 by decide), if_neg (by decide)]
      unfold fX11_mustName_17 fX11_mustName_18 fX11_mustName_20
      rw [mo_isO, Option.bind_some, c_isWM h (by omega), Option.bind_some, show stN 21 = 1 from rfl]
      unfold fX11_mustName_23
      cases z1 : wdB y n s 1 with
      | true =>
        rw [if_neg (show ¬ bI true = 0 by decide), if_pos rfl]
        exact ⟨S4, e62, ⟨(fun z => by have q := z.2; cases q), fun _ => g2⟩, g3⟩
      | false =>
        rw [if_pos (show bI false = 0 by decide), if_neg (by decide)]
        unfold fX11_mustName_26 fX11_mustName_27 fX11_mustName_29
        rw [mo_isO, Option.bind_some, c_isWM h (by omega), Option.bind_some, show stN 22 = 2 from rfl]
        unfold fX11_mustName_32
        cases z2 : wdB y n s 2 with
        | true =>
          rw [if_neg (show ¬ bI true = 0 by decide), if_pos rfl]
          exact ⟨S4, e62, ⟨(fun z => by have q := z.2; cases q), fun _ => g2⟩, g3⟩
        | false =>
          rw [if_pos (show bI false = 0 by decide), if_neg (by decide)]
          unfold fX11_mustName_35 fX11_mustName_36 fX11_mustName_38
          rw [mo_isO, Option.bind_some, c_isWM h (by omega), Option.bind_some, show stN 23 = 3 from rfl]
          unfold fX11_mustName_41
          cases z3 : wdB y n s 3 with
          | true =>
            rw [if_neg (show ¬ bI true = 0 by decide), if_pos rfl]
            exact ⟨S4, e62, ⟨(fun z => by have q := z.2; cases q), fun _ => g2⟩, g3⟩
          | false =>
            rw [if_pos (show bI false = 0 by decide), if_neg (by decide)]
            unfold fX11_mustName_44 fX11_mustName_45 fX11_mustName_47
            rw [mo_isO, Option.bind_some, c_isWM h (by omega), Option.bind_some, show stN 24 = 4 from rfl]
            unfold fX11_mustName_50
            cases z4 : wdB y n s 4 with
            | true =>
              rw [if_neg (show ¬ bI true = 0 by decide), if_pos rfl]
              exact ⟨S4, e62, ⟨(fun z => by have q := z.2; cases q), fun _ => g2⟩, g3⟩
            | false =>
              rw [if_pos (show bI false = 0 by decide), if_neg (by decide)]
              unfold fX11_mustName_53 fX11_mustName_54 fX11_mustName_56
              rw [mo_isO, Option.bind_some, c_isWM h (by omega), Option.bind_some, show stN 25 = 5 from rfl]
              unfold fX11_mustName_59
              cases z5 : wdB y n s 5 with
              | true =>
                rw [if_neg (show ¬ bI true = 0 by decide), if_pos rfl]
                exact ⟨S4, e62, ⟨(fun z => by have q := z.2; cases q), fun _ => g2⟩, g3⟩
              | false =>
                rw [if_pos (show bI false = 0 by decide), if_neg (by decide)]
                exact ⟨S, rfl, ⟨fun _ => rfl, fun z => absurd ⟨zk, rfl⟩ z⟩, frM_rf S⟩
  · rw [if_neg (fun z => zk ((mk_2 hK).mp z))]
    exact ⟨S4, e62, ⟨fun z => absurd z.1 zk, fun _ => g2⟩, g3⟩
end RM1

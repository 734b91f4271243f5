-- THE TEXT: table, the class
set_option maxRecDepth 100000 in
set_option maxHeartbeats 400000 in
theorem pAll_inv {y : Nat → Nat} {n : Nat} {q : PSt} (h : pAll y n = .inr q) : pIv q.1 q.2.1 q.2.2.1 ∧ 0 < q.2.2.1 3 ∧ anyR q.1 19 (nI 0) (q.2.2.1 4) = true := by
  unfold pAll at h
  obtain ⟨q1, h1, h2⟩ := bdP_inv h
  obtain ⟨q0, h3, h4⟩ := bdP_inv h1
  by_cases z : q1.2.2.1 3 = 0 ∨ anyR q1.1 19 (nI 0) (q1.2.2.1 4) = false
  · rw [if_pos z] at h2; cases h2
  · rw [if_neg z] at h2
    rw [← Sum.inr.inj h2]
    refine ⟨pIv_loo (pIv_lin (q := p0 y n) pIv_0 h3) h4, Nat.pos_of_ne_zero (fun q => z (Or.inl q)), ?_⟩
    cases za : anyR q1.1 19 (nI 0) (q1.2.2.1 4) with
    | true => rfl
    | false => exact absurd (Or.inr za) z
def swT (T : Nat → Nat) : Nat → Nat := stT (stT T 0 (T 1)) 1 (T 0)
def tbC (S S' : Mem) (T T' : Nat → Nat) (v : Int32) (x : PR PSt) : Prop := match x with
  | .inl e => v = m1 ∧ T' = T ∧ S' 0 11 = nI 4 ∧ S' 0 12 = nI e.1 ∧ S' 1 2 = nI e.2 ∧ fr S S' (0 :: LnS (T 1))
  | .inr q => v = nI (q.2.2.1 3) ∧ T' = swT T ∧ S' 0 11 = nI 0 ∧ S' 0 12 = nI 0 ∧ (∀ j, j < 8 → S' (T 1) j = nI (q.2.2.1 j)) ∧ (∀ j, inD q.2.2.1 j → S' (T 1) j = q.1 j) ∧ S' 139 = bgC (S' (T 1)) (S 139) 0 (q.2.2.1 6) ∧ S' 56 0 = nI 0 ∧ S' 56 1 = nI 0 ∧ S' 122 0 = nI 0 ∧ fr S S' (0 :: 139 :: 56 :: 122 :: LnS (T 1))
set_option maxRecDepth 100000 in
set_option maxHeartbeats 400000 in
theorem fr_wd {S S' : Mem} {l m : List Nat} (h : fr S S' l) (hl : ∀ x, x ∈ l → x ∈ m) : fr S S' m := fun c hc => h c (fun z => hc (hl c z))
section TBC
variable {S : Mem} {J : MeJ} {T : Nat → Nat} {y : Nat → Nat} {n b : Nat}
set_option maxRecDepth 100000 in
set_option maxHeartbeats 400000 in
theorem c_tabC (hT : tT T) (htp : tpC S y n) (hb : S 1 0 = nI b) (hb7 : b ≤ 700) (hnb : n ≤ b) : ∃ S' T' v, gX10_table 0 (nI n) (hp S J T) = some (v, hp S' J T') ∧ S' 1 0 = nI 0 ∧ tbC S S' T T' v (pAll y n) := by
  have t1 : tlA (T 1) ∧ (T 1 = 143 ∨ T 1 = 155) := by
    rcases hT with z | z
    · rw [z.2]; exact ⟨tlA_155, Or.inr rfl⟩
    · rw [z.2]; exact ⟨tlA_143, Or.inl rfl⟩
  obtain ⟨htl, ht⟩ := t1
  have ht0 : 56 ≤ T 1 := by omega
  obtain ⟨S1, v, a1, a2, a3⟩ := c_read (J := J) (T := T) htl ht0 htp
  generalize hS2 : stR (stR S1 1 (up (S1 1) 0 (nI 0))) 0 (up (S1 0) 12 (S1 1 1)) = S2
  have e1 : gX10_table 0 (nI n) (hp S J T) = if v = 0 then fX10_table_57 0 (hp S2 J T) else fX10_table_63 0 (hp S2 J T) := by
    unfold gX10_table fX10_table_0
    rw [if_neg (by rw [nI_lt0 (by omega)]; exact fun z => z)]
    unfold fX10_table_4
    rw [lt_f0, Option.bind_some, rd_g0, Option.bind_some, hb, if_neg (nltn (show ¬ b < n by omega) (by omega) (by omega))]
    unfold fX10_table_21
    rw [lt_f0, Option.bind_some, lt_f10, Option.bind_some]
    unfold fX10_table_30
    rw [rd_isO, Option.bind_some, a1, Option.bind_some]
    unfold fX10_table_33
    rw [lt_f0, Option.bind_some, kI_0, rd_p0, Option.bind_some, stS_R, lt_f0, Option.bind_some, rd_g1, Option.bind_some, stR_eq, up_ne (by omega), lt_p12, Option.bind_some, stS_R, stR_ne (show 0 ≠ 1 by omega), hS2]
  have c0 : S2 0 = up (S1 0) 12 (S1 1 1) := by rw [← hS2, stR_eq]
  have c1 : S2 1 = up (S1 1) 0 (nI 0) := by rw [← hS2, stR_ne (by omega), stR_eq]
  have co : ∀ x, x ≠ 0 → x ≠ 1 → S2 x = S1 x := fun x z0 z1 => by rw [← hS2, stR_ne z0, stR_ne z1]
  have f2 : fr S S2 (0 :: LnS (T 1)) := by
    rw [← hS2]
    exact fr_st (fr_st (fr_wd a3 (fun x hx => List.mem_cons_of_mem _ hx)) (by simp [LnS])) (by simp)
  rw [e1]
  cases hA : pAll y n with
  | inl e =>
    rw [hA] at a2
    obtain ⟨b1, b2, b3⟩ := a2
    refine ⟨stR S2 0 (up (S2 0) 11 (nI 4)), T, m1, ?_, ?_, rfl, rfl, ?_, ?_, ?_, fr_st f2 (by simp)⟩
    · rw [b1, if_pos (show nI 0 = 0 from rfl)]
      unfold fX10_table_57 fX10_table_59
      rw [lt_isO, Option.bind_some, kI_4, c_refuse, Option.bind_some]
      unfold fX10_table_62
      rfl
    · rw [stR_ne (by omega), c1, up_eq]
    · rw [stR_eq, up_eq]
    · rw [stR_eq, up_ne (by omega), c0, up_eq]; exact b2
    · rw [stR_ne (by omega), c1, up_ne (by omega)]; exact b3
  | inr q =>
    rw [hA] at a2
    obtain ⟨b1, b2⟩ := a2
    obtain ⟨i1, i2, i3⟩ := pAll_inv hA
    obtain ⟨h1, h2, h3, h4, h5, h6, h7⟩ := id b2
    have et : S2 (T 1) = S1 (T 1) := co _ (by omega) (by omega)
    have hU : S2 (T 1) 6 = nI (q.2.2.1 6) := by rw [et]; exact h4 6 (by omega)
    have g1 := c_begin7 (S := S2) (J := J) (T := swT T) (U := q.2.2.1 6) (s := 0) plA_139 htl (by omega) hU h6.2.2.2.1 (fun k hk => by
      obtain ⟨⟨p, z1, z2⟩, z3⟩ := i1.2.2.2.2.2.2.2.1 k hk
      exact ⟨p, by have := h6.1; omega, by rw [et, h7 _ (by unfold inD; omega)]; exact z2⟩)
    generalize hS3 : stR S2 139 (bgC (S2 (T 1)) (S2 139) 0 (q.2.2.1 6)) = S3 at g1
    generalize hS5 : stR (stR S3 56 (up (up (S3 56) 0 (nI 0)) 1 (nI 0))) 122 (up (S3 122) 0 (nI 0)) = S5
    have c3 : ∀ x, x ≠ 139 → S3 x = S2 x := fun x hx => by rw [← hS3, stR_ne hx]
    have c5 : ∀ x, x ≠ 56 → x ≠ 122 → S5 x = S3 x := fun x z0 z1 => by rw [← hS5, stR_ne z1, stR_ne z0]
    have e5 : S5 (T 1) = S1 (T 1) := by rw [c5 _ (by omega) (by omega), c3 _ (by omega), et]
    have z9 : S2 139 = S 139 := f2 139 (by simp [LnS]; omega)
    have f5 : fr S S5 (0 :: 139 :: 56 :: 122 :: LnS (T 1)) := by
      rw [← hS5, ← hS3]
      exact fr_st (fr_st (fr_st (fr_wd f2 (fun x hx => by simp [LnS] at hx ⊢; omega)) (by simp)) (by simp)) (by simp)
    refine ⟨stR S5 0 (up (S5 0) 11 (nI 0)), swT T, nI (q.2.2.1 3), ?_, ?_, rfl, rfl, ?_, ?_, fun j hj => ?_, fun j hj => ?_, ?_, ?_, ?_, ?_, fr_st f5 (by simp)⟩
    · rw [b1, if_neg (show ¬ nI 1 = 0 by decide)]
      unfold fX10_table_63
      rw [lt_f9, Option.bind_some, lt_f10, Option.bind_some, lt_p9, Option.bind_some, lt_p10, Option.bind_some, show stT (stT T 0 (T 1)) 1 (T 0) = swT T from rfl, lt_f8, Option.bind_some, lt_f9, Option.bind_some, show swT T 0 = T 1 from rfl]
      unfold fX10_table_90
      rw [pl_isO plA_139, Option.bind_some, kI_0, g1, Option.bind_some]
      unfold fX10_table_93
      rw [lt_f5, Option.bind_some]
      unfold fX10_table_97
      rw [hi_isO, Option.bind_some]
      unfold gX4_forget fX4_forget_0
      rw [kI_0, hi_p0, Option.bind_some, stS_R, hi_p1, Option.bind_some, stS_R, stR_stR, stR_eq, Option.bind_some]
      unfold fX10_table_100
      rw [lt_f6, Option.bind_some]
      unfold fX10_table_104
      rw [im_isO, Option.bind_some]
      unfold gX5_forget fX5_forget_0
      rw [kI_0, im_p0, Option.bind_some, stS_R, stR_ne (show 122 ≠ 56 by omega), Option.bind_some, hS5]
      unfold fX10_table_107
      rw [lt_f9, Option.bind_some, show swT T 0 = T 1 from rfl, tl_g3 htl, Option.bind_some, e5, h4 3 (by omega)]
      unfold fX10_table_115
      rw [lt_isO, Option.bind_some, c_answer, Option.bind_some]
      unfold fX10_table_118
      rfl
    · rw [stR_ne (by omega), c5 _ (by omega) (by omega), c3 _ (by omega), c1, up_eq]
    · rw [stR_eq, up_eq]
    · rw [stR_eq, up_ne (by omega), c5 _ (by omega) (by omega), c3 _ (by omega), c0, up_eq]; exact h1.2.2.2.2.2.2.2
    · rw [stR_ne (by omega), e5]; exact h4 j hj
    · rw [stR_ne (by omega), e5]; exact h7 j hj
    · rw [stR_ne (by omega), stR_ne (by omega), e5, c5 _ (by omega) (by omega), ← hS3, stR_eq, et, z9]
    · rw [stR_ne (by omega), ← hS5, stR_ne (by omega), stR_eq, up_ne (by omega), up_eq]
    · rw [stR_ne (by omega), ← hS5, stR_ne (by omega), stR_eq, up_eq]
    · rw [stR_ne (by omega), ← hS5, stR_eq, up_eq]
end TBC

-- THE TEXT, the reference: faults, words, numbers
def fTM (S : Mem) (e : Nat × Nat) : Prop := S 167 13 = nI 1 ∧ S 167 9 = nI e.1 ∧ S 167 10 = nI e.2
def outM {α : Type} (S' : Mem) (x : PR α) (ok : α → Prop) : Prop := match x with
  | .inl e => fTM S' e
  | .inr a => ok a
def kp9 (S S' : Mem) : Prop := S' 167 13 = nI 0 → S 167 13 = nI 0 ∧ S' 167 9 = S 167 9
set_option maxRecDepth 100000 in
set_option maxHeartbeats 400000 in
theorem kp9_eq {S S' : Mem} (e : S' 167 = S 167) : kp9 S S' := by
  unfold kp9
  rw [e]
  exact fun h => ⟨h, rfl⟩
set_option maxRecDepth 100000 in
set_option maxHeartbeats 400000 in
theorem kp9_tr {S S' S'' : Mem} (h : kp9 S S') (q : kp9 S' S'') : kp9 S S'' := fun z => ⟨(h (q z).1).1, (q z).2.trans (h (q z).1).2⟩
def frM (S S' : Mem) : Prop := (∀ c, c ≠ 167 → c ≠ 169 → S' c = S c) ∧ (∀ j, j ∉ [4, 5, 6, 7, 8, 9, 10, 13] → S' 167 j = S 167 j) ∧ kp9 S S'
set_option maxRecDepth 100000 in
set_option maxHeartbeats 400000 in
theorem frM_rf (S : Mem) : frM S S := ⟨fun _ _ _ => rfl, fun _ _ => rfl, kp9_eq rfl⟩
set_option maxRecDepth 100000 in
set_option maxHeartbeats 400000 in
theorem frM_tr {S S' S'' : Mem} (h : frM S S') (q : frM S' S'') : frM S S'' := ⟨fun c a b => (q.1 c a b).trans (h.1 c a b), fun j a => (q.2.1 j a).trans (h.2.1 j a), kp9_tr h.2.2 q.2.2⟩
set_option maxRecDepth 100000 in
set_option maxHeartbeats 400000 in
theorem wd_k1 {y : Nat → Nat} {n s q : Nat} (h : wdB y n s q = true) : tkK y n s ≠ 1 := by
  unfold wdB at h
  rw [Bool.and_eq_true] at h
  have := of_decide_eq_true h.1
  omega
set_option maxRecDepth 100000 in
set_option maxHeartbeats 400000 in
theorem mk_3 {k : Nat} (h : k ≠ 3) (hK : k ≤ 4) : ¬ nI (mkT k) = nI 3 := by
  unfold mkT
  split
  · decide
  · rw [eq_eq (by omega) (by omega)]; exact h
set_option maxRecDepth 100000 in
set_option maxHeartbeats 400000 in
theorem inBd {k lo hi : Nat} (h1 : k < 5000) (h2 : lo < 5000) (h3 : hi < 5000) : inB (nI k) (nI lo) (nI hi) = decide (lo ≤ k ∧ k ≤ hi) := by
  unfold inB
  by_cases z1 : k < lo
  · rw [decide_eq_false (fun z => z.1 (ltn z1 h2)), decide_eq_false (fun z => by omega)]
  · by_cases z2 : hi < k
    · rw [decide_eq_false (fun z => z.2 (ltn z2 h1)), decide_eq_false (fun z => by omega)]
    · rw [decide_eq_true ⟨nltn z1 h1 h2, nltn z2 h3 h1⟩, decide_eq_true ⟨by omega, by omega⟩]
section RM0
variable {S : Mem} {J : MeJ} {T : Nat → Nat} {y : Nat → Nat} {n s : Nat}
set_option maxRecDepth 100000 in
set_option maxHeartbeats 400000 in
theorem c_wrg (h : S 167 13 = nI 0) (f p : Nat) : ∃ S', gX11_wrong 167 (nI f) (nI p) (hp S J T) = some (hp S' J T) ∧ fTM S' (f, p) ∧ frM S S' := by
  refine ⟨stR S 167 (up (up (up (S 167) 13 (nI 1)) 9 (nI f)) 10 (nI p)), ?_, ⟨by rw [stR_eq, up_ne (by omega), up_ne (by omega), up_eq], by rw [stR_eq, up_ne (by omega), up_eq], by rw [stR_eq, up_eq]⟩, fun c a b => by rw [stR_ne a], fun j hj => ?_, fun z => absurd z (by rw [stR_eq, up_ne (by omega), up_ne (by omega), up_eq]; decide)⟩
  · unfold gX11_wrong fX11_wrong_0
    rw [mo_g13, Option.bind_some, h, if_pos (show nI 0 = 0 from rfl)]
    unfold fX11_wrong_8
    rw [kI_1, mo_p13 o_1, Option.bind_some, stS_R, mo_p9, Option.bind_some, stS_R, stR_stR, stR_eq, mo_p10, Option.bind_some, stS_R, stR_stR, stR_eq]
  · simp only [List.mem_cons, List.not_mem_nil, or_false, not_or] at hj
    rw [stR_eq, up_ne (by omega), up_ne (by omega), up_ne (by omega)]
set_option maxRecDepth 100000 in
set_option maxHeartbeats 400000 in
theorem c_wrgF (h : S 167 13 = nI 1) {f p : Int32} : gX11_wrong 167 f p (hp S J T) = some (hp S J T) := by
  unfold gX11_wrong fX11_wrong_0
  rw [mo_g13, Option.bind_some, h, if_neg (show ¬ nI 1 = 0 by decide)]
  rfl
set_option maxRecDepth 100000 in
set_option maxHeartbeats 400000 in
theorem s_nextM (h : tM S y n s) (hk : tkK y n s ≠ 1) : ∃ S', gX11_next 167 (hp S J T) = some (hp S' J T) ∧ tM S' y n (nx y n s) ∧ frM S S' := by
  obtain ⟨X, L, a1, a2, a3⟩ := s_next (J := J) (T := T) h hk
  refine ⟨_, a1, a2, fun c z1 z2 => by rw [stR_ne z2, stR_ne z1], fun j hj => ?_, fun _ => ⟨h.2.2.2.1, by rw [stR_ne (by omega), stR_eq]; exact a3 9 (by omega) (by omega) (by omega) (by omega) (by omega)⟩⟩
  simp only [List.mem_cons, List.not_mem_nil, or_false, not_or] at hj
  rw [stR_ne (by omega), stR_eq]
  exact a3 j (by omega) (by omega) (by omega) (by omega) (by omega)
set_option maxRecDepth 100000 in
set_option maxHeartbeats 400000 in
theorem c_mustF (h : S 167 13 = nI 1) {i : Nat} : gX11_must 167 i (hp S J T) = some (hp S J T) := by
  unfold gX11_must fX11_must_0
  rw [mo_g13, Option.bind_some, h, if_neg (show ¬ nI 1 = 0 by decide)]
  rfl
set_option maxRecDepth 100000 in
set_option maxHeartbeats 400000 in
theorem c_must (h : tM S y n s) {i : Nat} (hi : i < 34) : ∃ S', gX11_must 167 (SB + i) (hp S J T) = some (hp S' J T) ∧ outM S' (pW y n (stN i) s) (fun s1 => tM S' y n s1) ∧ frM S S' := by
  have h13 := h.2.2.2.1
  unfold gX11_must fX11_must_0 pW
  rw [mo_g13, Option.bind_some, h13, if_pos (show nI 0 = 0 from rfl)]
  unfold fX11_must_7 fX11_must_9 gX11_takesWord fX11_takesWord_0 fX11_takesWord_2
  rw [mo_isO, Option.bind_some, Option.bind_some, c_isWM h hi, Option.bind_some]
  unfold fX11_takesWord_5
  cases zw : wdB y n s (stN i) with
  | false =>
    rw [if_pos (show bI false = 0 by decide), if_neg (by decide)]
    obtain ⟨S4, g1, g2, g3⟩ := c_wrg (J := J) (T := T) h13 1 s
    refine ⟨S4, ?_, g2, g3⟩
    unfold fX11_takesWord_8
    rw [kI_0, if_pos o_0, Option.bind_some]
    unfold fX11_must_12
    rw [if_pos (show nI 0 = 0 from rfl)]
    unfold fX11_must_15 fX11_must_21
    rw [mo_g4, Option.bind_some, h.2.2.2.2.1, mo_isO, Option.bind_some, kI_1, g1, Option.bind_some]
    rfl
  | true =>
    rw [if_neg (show ¬ bI true = 0 by decide), if_pos rfl]
    obtain ⟨S4, g1, g2, g3⟩ := s_nextM (J := J) (T := T) h (wd_k1 zw)
    refine ⟨S4, ?_, g2, g3⟩
    unfold fX11_takesWord_10 fX11_takesWord_11
    rw [mo_isO, Option.bind_some, g1, Option.bind_some]
    unfold fX11_takesWord_14
    rw [kI_1, if_pos o_1, Option.bind_some]
    unfold fX11_must_12
    rw [if_neg (show ¬ nI 1 = 0 by decide)]
    rfl
set_option maxRecDepth 100000 in
set_option maxHeartbeats 400000 in
theorem c_numF (h : S 167 13 = nI 1) {lo hi : Int32} : gX11_number 167 lo hi (hp S J T) = some (lo, hp S J T) := by
  unfold gX11_number fX11_number_0 fX11_number_3 gX11_numberHere fX11_numberHere_0
  rw [mo_isO, Option.bind_some, mo_g13, Option.bind_some, h, if_neg (show ¬ nI 1 = 0 by decide)]
  unfold fX11_numberHere_7
  rw [Option.bind_some]
  unfold fX11_number_6 fX11_number_8 gX11_pass fX11_pass_0
  rw [mo_isO, Option.bind_some, mo_g13, Option.bind_some, h, if_neg (show ¬ nI 1 = 0 by decide)]
  rfl
set_option maxRecDepth 100000 in
set_option maxHeartbeats 400000 in
theorem c_nHM (h : tM S y n s) {lo hi : Nat} (hlo : lo < 5000) (hhi : hi < 5000) : ∃ S' v, gX11_numberHere 167 (nI lo) (nI hi) (hp S J T) = some (v, hp S' J T) ∧ outM S' (pNu y n lo hi s) (fun w => v = nI w ∧ S' = S ∧ tkK y n s = 3) ∧ frM S S' := by
  have h13 := h.2.2.2.1
  have hK := tkK_le y n s
  have e50 : ∀ S' : Mem, S' 167 13 = nI 1 → fX11_numberHere_50 167 (nI lo) (hp S' J T) = some (nI lo, hp S' J T) := fun S' h' => by
    unfold fX11_numberHere_50
    rw [mo_g13, Option.bind_some, h', if_neg (show ¬ nI 1 = 0 by decide)]
    rfl
  unfold gX11_numberHere fX11_numberHere_0
  rw [mo_g13, Option.bind_some, h13, if_pos (show nI 0 = 0 from rfl)]
  unfold fX11_numberHere_9 pNu
  rw [mo_g6, Option.bind_some, h.2.2.2.2.2.2.1, kI_3]
  by_cases z3 : tkK y n s = 3
  · have hv := tkV_lt z3
    have e7 := h.2.2.2.2.2.2.2.1 z3
    rw [z3, if_pos (show nI (mkT 3) = nI 3 by decide), if_pos rfl]
    unfold fX11_numberHere_29 fX11_numberHere_35
    rw [mo_g7, Option.bind_some, e7, c_in, Option.bind_some]
    unfold fX11_numberHere_38
    have eI : inB (nI (tkV y n s)) (nI lo) (nI hi) = decide (lo ≤ tkV y n s ∧ tkV y n s ≤ hi) := inBd (by omega) hlo hhi
    rw [eI]
    by_cases z : lo ≤ tkV y n s ∧ tkV y n s ≤ hi
    · rw [decide_eq_true z, if_neg (show ¬ bI true = 0 by decide), if_pos z]
      refine ⟨S, nI (tkV y n s), ?_, ⟨rfl, rfl, rfl⟩, frM_rf S⟩
      unfold fX11_numberHere_50
      rw [mo_g13, Option.bind_some, h13, if_pos (show nI 0 = 0 from rfl)]
      unfold fX11_numberHere_61
      rw [mo_g7, Option.bind_some, e7]
      rfl
    · rw [decide_eq_false z, if_pos (show bI false = 0 by decide), if_neg z]
      obtain ⟨S4, g1, g2, g3⟩ := c_wrg (J := J) (T := T) h13 4 s
      refine ⟨S4, nI lo, ?_, g2, g3⟩
      unfold fX11_numberHere_41 fX11_numberHere_47
      rw [mo_g4, Option.bind_some, h.2.2.2.2.1, mo_isO, Option.bind_some, kI_4, g1, Option.bind_some]
      exact e50 S4 g2.1
  · rw [if_neg (mk_3 z3 hK), if_neg z3]
    obtain ⟨S4, g1, g2, g3⟩ := c_wrg (J := J) (T := T) h13 1 s
    refine ⟨S4, nI lo, ?_, g2, g3⟩
    unfold fX11_numberHere_17 fX11_numberHere_23
    rw [mo_g4, Option.bind_some, h.2.2.2.2.1, mo_isO, Option.bind_some, kI_1, g1, Option.bind_some]
    unfold fX11_numberHere_26
    exact e50 S4 g2.1
end RM0

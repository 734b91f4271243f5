-- THE TEXT, the reference: table
section RMF
variable {S : Mem} {J : MeJ} {T : Nat → Nat} {y : Nat → Nat} {n b : Nat}
set_option maxRecDepth 100000 in
set_option maxHeartbeats 400000 in
theorem c_cl1 {v : Int32} : lX11_table_39 FU 167 v (nI 0) (hp S J T) = fX11_table_59 167 v (hp (stR S 171 (flR (S 171) 0 (nI 0) 188)) J T) := by
  have e0 : flR (S 171) 0 (nI 0) 0 = S 171 := by funext j; exact if_neg (by omega)
  have es : ∀ k, up (flR (S 171) 0 (nI 0) k) k (nI 0) = flR (S 171) 0 (nI 0) (k + 1) := fun k => by
    funext j
    unfold up flR
    by_cases h : j = k
    · rw [if_pos h, if_pos (show 0 ≤ j ∧ j < 0 + (k + 1) by omega)]
    · rw [if_neg h]
      by_cases h2 : j < k
      · rw [if_pos (show 0 ≤ j ∧ j < 0 + k by omega), if_pos (show 0 ≤ j ∧ j < 0 + (k + 1) by omega)]
      · rw [if_neg (show ¬ (0 ≤ j ∧ j < 0 + k) by omega), if_neg (show ¬ (0 ≤ j ∧ j < 0 + (k + 1)) by omega)]
  have h := for_at lX11_table_39 fX11_table_39 (fun _ => rfl) (fun K k (R : Row) => K 167 v (nI k) (hp (stR S 171 R) J T)) 188 (flR (S 171) 0 (nI 0)) (fX11_table_59 167 v (hp (stR S 171 (flR (S 171) 0 (nI 0) 188)) J T)) (fun K k hk => by
      show fX11_table_39 K 167 v (nI k) (hp (stR S 171 (flR (S 171) 0 (nI 0) k)) J T) = K 167 v (nI (k + 1)) (hp (stR S 171 (flR (S 171) 0 (nI 0) (k + 1))) J T)
      unfold fX11_table_39
      rw [kS_188, if_pos (ltn hk (by omega))]
      unfold fX11_table_46
      rw [mo_f16, Option.bind_some, kI_0, mo_w16 hk, Option.bind_some, stS_R, stR_stR, stR_eq, kI_1, nI_add, es]) (fun K => by
      show fX11_table_39 K 167 v (nI 188) (hp (stR S 171 (flR (S 171) 0 (nI 0) 188)) J T) = _
      unfold fX11_table_39
      rw [kS_188, if_neg (nltn (Nat.lt_irrefl _) (by omega) (by omega))]) (FU_lt (by omega))
  have h' : lX11_table_39 FU 167 v (nI 0) (hp (stR S 171 (flR (S 171) 0 (nI 0) 0)) J T) = fX11_table_59 167 v (hp (stR S 171 (flR (S 171) 0 (nI 0) 188)) J T) := h
  rwa [e0, stR_self] at h'
set_option maxRecDepth 100000 in
set_option maxHeartbeats 400000 in
theorem c_cl2 {v : Int32} : lX11_table_61 FU 167 v (nI 0) (hp S J T) = fX11_table_80 167 v (hp (stR S 173 (flR (S 173) 0 (nI 0) 22)) J T) := by
  have e0 : flR (S 173) 0 (nI 0) 0 = S 173 := by funext j; exact if_neg (by omega)
  have es : ∀ k, up (flR (S 173) 0 (nI 0) k) k (nI 0) = flR (S 173) 0 (nI 0) (k + 1) := fun k => by
    funext j
    unfold up flR
    by_cases h : j = k
    · rw [if_pos h, if_pos (show 0 ≤ j ∧ j < 0 + (k + 1) by omega)]
    · rw [if_neg h]
      by_cases h2 : j < k
      · rw [if_pos (show 0 ≤ j ∧ j < 0 + k by omega), if_pos (show 0 ≤ j ∧ j < 0 + (k + 1) by omega)]
      · rw [if_neg (show ¬ (0 ≤ j ∧ j < 0 + k) by omega), if_neg (show ¬ (0 ≤ j ∧ j < 0 + (k + 1)) by omega)]
  have h := for_at lX11_table_61 fX11_table_61 (fun _ => rfl) (fun K k (R : Row) => K 167 v (nI k) (hp (stR S 173 R) J T)) 22 (flR (S 173) 0 (nI 0)) (fX11_table_80 167 v (hp (stR S 173 (flR (S 173) 0 (nI 0) 22)) J T)) (fun K k hk => by
      show fX11_table_61 K 167 v (nI k) (hp (stR S 173 (flR (S 173) 0 (nI 0) k)) J T) = K 167 v (nI (k + 1)) (hp (stR S 173 (flR (S 173) 0 (nI 0) (k + 1))) J T)
      unfold fX11_table_61
      rw [kB_22, if_pos (ltn hk (by omega))]
      unfold fX11_table_67
      rw [mo_f18, Option.bind_some, kI_0, mo_w18 hk, Option.bind_some, stS_R, stR_stR, stR_eq, kI_1, nI_add, es]) (fun K => by
      show fX11_table_61 K 167 v (nI 22) (hp (stR S 173 (flR (S 173) 0 (nI 0) 22)) J T) = _
      unfold fX11_table_61
      rw [kB_22, if_neg (nltn (Nat.lt_irrefl _) (by omega) (by omega))]) (FU_lt (by omega))
  have h' : lX11_table_61 FU 167 v (nI 0) (hp (stR S 173 (flR (S 173) 0 (nI 0) 0)) J T) = fX11_table_80 167 v (hp (stR S 173 (flR (S 173) 0 (nI 0) 22)) J T) := h
  rwa [e0, stR_self] at h'
-- up to the first line
set_option maxRecDepth 100000 in
set_option maxHeartbeats 400000 in
theorem c_tab0 (htp : tpM S y n) (hb : S 167 2 = nI b) (hb7 : b ≤ 700) (hnb : n ≤ b) : ∃ S1, gX11_table 167 (nI n) (hp S J T) = fX11_table_94 167 (hp S1 J T) ∧ okM S1 y n (p0 y n) ∧ S1 167 2 = nI 0 ∧ S1 167 9 = nI 0 ∧ S1 167 11 = nI 0 ∧ (∀ j, j ∉ [0, 2, 3, 4, 5, 6, 7, 8, 9, 11, 13] → S1 167 j = S 167 j) ∧ ∀ c, c ≠ 167 → c ≠ 169 → c ≠ 171 → c ≠ 173 → S1 c = S c := by
  generalize hS2 : stR (stR (stR S 167 (up (up (up (up (up (nw S) 2 (nI 0)) 9 (nI 0)) 13 (nI 0)) 3 (nI n)) 5 (nI 0))) 171 (flR (S 171) 0 (nI 0) 188)) 173 (flR (S 173) 0 (nI 0) 22) = S2
  have x7 : S2 167 = up (up (up (up (up (nw S) 2 (nI 0)) 9 (nI 0)) 13 (nI 0)) 3 (nI n)) 5 (nI 0) := by rw [← hS2, stR_ne (by omega), stR_ne (by omega), stR_eq]
  have x171 : S2 171 = flR (S 171) 0 (nI 0) 188 := by rw [← hS2, stR_ne (by omega), stR_eq]
  have x173 : S2 173 = flR (S 173) 0 (nI 0) 22 := by rw [← hS2, stR_eq]
  have xo : ∀ c, c ≠ 167 → c ≠ 171 → c ≠ 173 → S2 c = S c := fun c a1 a2 a3 => by rw [← hS2, stR_ne a3, stR_ne a2, stR_ne a1]
  have tp2 : tpM S2 y n := ⟨htp.1, fun k hk => by rw [xo 168 (by omega) (by omega) (by omega)]; exact htp.2 k hk⟩
  obtain ⟨X, L, a1, a2, a3, a4, a5, a6, a7⟩ := c_next (S := S2) (J := J) (T := T) tp2 (e := 0) (Nat.zero_le _) (by rw [x7, up_ne (by omega), up_eq]) (by rw [x7, up_eq])
  generalize hS3 : stR (stR S2 167 X) 169 L = S3 at a1
  have y7 : S3 167 = X := by rw [← hS3, stR_ne (by omega), stR_eq]
  have y9 : S3 169 = L := by rw [← hS3, stR_eq]
  have yo : ∀ c, c ≠ 167 → c ≠ 169 → S3 c = S2 c := fun c z1 z2 => by rw [← hS3, stR_ne z2, stR_ne z1]
  have f0 : ∀ j, flR (S 171) 0 (nI 0) 188 j = if j < 188 then nI 0 else S 171 j := fun j => by
    unfold flR
    by_cases z : j < 188
    · rw [if_pos z, if_pos (by omega)]
    · rw [if_neg z, if_neg (by omega)]
  have z1 : ∀ j, j < 188 → S3 171 j = nI 0 := fun j hj => by rw [yo 171 (by omega) (by omega), x171, f0, if_pos hj]
  have z3 : ∀ j, j < 22 → S3 173 j = nI 0 := fun j hj => by
    rw [yo 173 (by omega) (by omega), x173]
    exact if_pos (by omega)
  refine ⟨S3, ?_, ⟨⟨?_, ?_, ?_⟩, pIv_0, Or.inl rfl⟩, ?_, ?_, ?_, fun j hj => ?_, fun c q1 q2 q3 q4 => ?_⟩
  · unfold gX11_table fX11_table_0 fX11_table_1
    rw [mo_isO, Option.bind_some, c_anew, Option.bind_some]
    unfold fX11_table_4
    rw [mo_g2, Option.bind_some, stR_eq, up_ne (by omega), up_ne (by omega), hb]
    unfold fX11_table_10
    rw [kI_0, c_in, Option.bind_some, inBd (by omega) (by omega) (by omega), decide_eq_true (show 0 ≤ n ∧ n ≤ b from ⟨Nat.zero_le _, hnb⟩)]
    unfold fX11_table_13
    rw [if_neg (show ¬ bI true = 0 by decide)]
    unfold fX11_table_22
    rw [kI_0, mo_p2, Option.bind_some, stS_R, stR_stR, stR_eq, mo_p9, Option.bind_some, stS_R, stR_stR, stR_eq, mo_p13 o_0, Option.bind_some, stS_R, stR_stR, stR_eq, c_cl1, stR_ne (show 171 ≠ 167 by omega)]
    unfold fX11_table_59
    rw [kI_0, c_cl2, stR_ne (show 173 ≠ 171 by omega), stR_ne (show 173 ≠ 167 by omega)]
    unfold fX11_table_80
    rw [mo_p3, Option.bind_some, stS_R, stR_ne (show 167 ≠ 173 by omega), stR_ne (show 167 ≠ 171 by omega), stR_eq, kI_0, mo_p5, Option.bind_some, stS_R, stR_eq, stR_stR]
    have hw : stR (stR (stR (stR S 167 (up (up (up (up (up (S 167) 0 (nI 0)) 11 (nI 0)) 2 (nI 0)) 9 (nI 0)) 13 (nI 0))) 171 (flR (S 171) 0 (nI 0) 188)) 173 (flR (S 173) 0 (nI 0) 22)) 167 (up (up (up (up (up (up (up (S 167) 0 (nI 0)) 11 (nI 0)) 2 (nI 0)) 9 (nI 0)) 13 (nI 0)) 3 (nI n)) 5 (nI 0)) = S2 := by
      rw [← hS2]
      funext c
      by_cases w1 : c = 167
      · rw [w1, stR_eq, stR_ne (by omega), stR_ne (by omega), stR_eq]; rfl
      · rw [stR_ne w1]
        by_cases w3 : c = 173
        · rw [w3, stR_eq, stR_eq]
        · rw [stR_ne w3, stR_ne w3]
          by_cases w2 : c = 171
          · rw [w2, stR_eq, stR_eq]
          · rw [stR_ne w2, stR_ne w2, stR_ne w1, stR_ne w1]
    rw [hw]
    unfold fX11_table_91
    rw [mo_isO, Option.bind_some, a1, Option.bind_some]
  · refine ⟨⟨htp.1, fun k hk => by rw [yo 168 (by omega) (by omega)]; exact tp2.2 k hk⟩, (tkS_b (y := y) (Nat.zero_le _)).2, ?_, ?_, ?_, ?_, ?_, ?_, ?_⟩
    · rw [y7, a7 3 (by omega) (by omega) (by omega) (by omega) (by omega), x7, up_ne (by omega), up_eq]
    · rw [y7, a7 13 (by omega) (by omega) (by omega) (by omega) (by omega), x7, up_ne (by omega), up_ne (by omega), up_eq]
    · rw [y7]; exact a2
    · rw [y7]; exact a3
    · rw [y7]; exact a4
    · rw [y7]; exact a5
    · rw [y7, y9]; exact a6
  · exact ⟨fun i hi => z1 i (by omega), fun i q1 q2 => z1 i (by omega), fun k hk => ⟨z1 _ (by omega), z1 _ (by omega)⟩, fun i q1 q2 => z1 i (by omega), fun p hq => z3 p (by omega), fun j q1 q2 => z3 j q2⟩
  · exact ⟨(fun w w' hw => by cases hw), (fun w hw => by cases hw), fun d hd _ => z1 _ (by omega)⟩
  · rw [y7, a7 2 (by omega) (by omega) (by omega) (by omega) (by omega), x7, up_ne (by omega), up_ne (by omega), up_ne (by omega), up_ne (by omega), up_eq]
  · rw [y7, a7 9 (by omega) (by omega) (by omega) (by omega) (by omega), x7, up_ne (by omega), up_ne (by omega), up_ne (by omega), up_eq]
  · rw [y7, a7 11 (by omega) (by omega) (by omega) (by omega) (by omega), x7, up_ne (by omega), up_ne (by omega), up_ne (by omega), up_ne (by omega), up_ne (by omega)]
    exact up_eq
  · simp only [List.mem_cons, List.not_mem_nil, or_false, not_or] at hj
    rw [y7, a7 j (by omega) (by omega) (by omega) (by omega) (by omega), x7, up_ne (by omega), up_ne (by omega), up_ne (by omega), up_ne (by omega), up_ne (by omega)]
    unfold nw
    rw [up_ne (by omega), up_ne (by omega)]
  · rw [yo c q1 q2, xo c q1 q3 q4]
def tbM (S S' : Mem) (J : MeJ) (T : Nat → Nat) (y : Nat → Nat) (n : Nat) (x : PR PSt) : Prop := match x with
  | .inl e => gX11_table 167 (nI n) (hp S J T) = fX11_table_239 167 (hp S' J T) ∧ fTM S' e
  | .inr q => gX11_table 167 (nI n) (hp S J T) = fX11_table_245 167 (hp S' J T) ∧ okM S' y n q ∧ S' 167 9 = nI 0
set_option maxRecDepth 100000 in
set_option maxHeartbeats 400000 in
theorem c_tabR (htp : tpM S y n) (hb : S 167 2 = nI b) (hb7 : b ≤ 700) (hnb : n ≤ b) : ∃ S', tbM S S' J T y n (pAll y n) ∧ S' 167 2 = nI 0 ∧ S' 167 11 = nI 0 ∧ (∀ j, j ∉ [0, 2, 3, 4, 5, 6, 7, 8, 9, 10, 11, 13] → S' 167 j = S 167 j) ∧ ∀ c, c ≠ 167 → c ≠ 169 → c ≠ 171 → c ≠ 173 → S' c = S c := by
  obtain ⟨S1, a1, a2, a3, a4, a5, a6, a7⟩ := c_tab0 (J := J) (T := T) htp hb hb7 hnb
  have key : ∀ S', frO S1 S' → S' 167 2 = nI 0 ∧ S' 167 11 = nI 0 ∧ (∀ j, j ∉ [0, 2, 3, 4, 5, 6, 7, 8, 9, 10, 11, 13] → S' 167 j = S 167 j) ∧ ∀ c, c ≠ 167 → c ≠ 169 → c ≠ 171 → c ≠ 173 → S' c = S c := fun S' f => by
    refine ⟨by rw [f.2.1 2 (by decide)]; exact a3, by rw [f.2.1 11 (by decide)]; exact a5, fun j hj => ?_, fun c q1 q2 q3 q4 => (f.1 c q1 q2 q3 q4).trans (a7 c q1 q2 q3 q4)⟩
    simp only [List.mem_cons, List.not_mem_nil, or_false, not_or] at hj
    rw [f.2.1 j (by simp; omega)]
    exact a6 j (by simp; omega)
  have hK1 := a2.1.2.1.1 4 (by omega)
  have hK1' : S1 171 4 = nI 0 := hK1
  obtain ⟨S2, b1, b2, b3⟩ := c_linM (J := J) (T := T) a2.1 a2.2.1
  have e1 : gX11_table 167 (nI n) (hp S J T) = lX11_table_98 FU 167 (hp S2 J T) := by
    rw [a1]
    unfold fX11_table_94 fX11_table_95
    rw [mo_isO, Option.bind_some, b1, Option.bind_some]
  rw [show pAll y n = bdP (bdP (pLin y n (p0 y n)) (pLoo y n 700)) pEnd from rfl]
  cases hl : pLin y n (p0 y n) with
  | inl e =>
    rw [hl] at b2
    have b2' : fTM S2 e := b2
    obtain ⟨K, k1, k2⟩ := b3.2.2.2 0 (by omega) hK1'
    refine ⟨S2, ⟨?_, b2'⟩, key S2 b3⟩
    obtain ⟨g, hg⟩ : ∃ g, FU = g + 1 := ⟨FU - 1, by have := FU_lt (n := 1) (by omega); omega⟩
    rw [e1, hg, c_looF b2'.1]
    exact c_endF k2 k1 b2'.1
  | inr q =>
    rw [hl] at b2
    have b2' : stM S2 y n q := b2
    have hs0 : (p0 y n).2.2.2 ≤ n := a2.1.1.2.1
    obtain ⟨p1, p2, p3⟩ := pLin_on hs0 hl (Or.inl rfl)
    have hn7 := htp.1
    obtain ⟨S3, d1, d2, d3⟩ := c_looM (J := J) (T := T) 700 FU S2 q ⟨b2', pIv_lin (q := p0 y n) pIv_0 hl, p3⟩ (by omega) (FU_lt (by omega))
    rw [bdP_r]
    have f3 : frO S1 S3 := frO_tr b3 d3
    cases hq : pLoo y n 700 q with
    | inl e =>
      rw [hq] at d2
      have d2' : fTM S3 e := d2
      obtain ⟨K, k1, k2⟩ := f3.2.2.2 0 (by omega) hK1'
      refine ⟨S3, ⟨?_, d2'⟩, key S3 f3⟩
      rw [e1, d1]
      exact c_endF k2 k1 d2'.1
    | inr q' =>
      rw [hq] at d2
      have d2' : okM S3 y n q' := d2
      obtain ⟨S4, g1, g2⟩ := c_endM (J := J) (T := T) d2'
      have f4 : frO S1 S4 := frO_tr f3 g2
      rw [bdP_r]
      cases he : pEnd q' with
      | inl e =>
        rw [he] at g1
        obtain ⟨g3, g4⟩ := g1
        exact ⟨S4, ⟨by rw [e1, d1]; exact g3, g4⟩, key S4 f4⟩
      | inr q2 =>
        rw [he] at g1
        obtain ⟨g3, g4⟩ := g1
        have g4' : okM S4 y n q2 := g4
        exact ⟨S4, ⟨by rw [e1, d1]; exact g3, g4', (f4.2.2.1 g4'.1.1.2.2.2.1).2.trans a4⟩, key S4 f4⟩
-- the end of a table that was read
set_option maxRecDepth 100000 in
set_option maxHeartbeats 400000 in
theorem c_tabT {q : PSt} (h : okM S y n q) : ∃ S', fX11_table_245 167 (hp S J T) = some (nI (q.2.2.1 3), hp S' J T) ∧ (∀ j, j < 188 → S' 170 j = S 171 j) ∧ (∀ j, j < 14 → S' 172 j = S 173 j) ∧ (∀ k, k < q.2.2.1 4 → S' 172 (14 + k) = S 171 (20 + 2 * k)) ∧ S' 174 = cpR (S' 172) (S 174) 22 ∧ S' 167 14 = nI 1 ∧ S' 167 23 = nI 0 ∧ S' 167 24 = nI 0 ∧ (∀ j, j ≠ 14 → j ≠ 23 → j ≠ 24 → S' 167 j = S 167 j) ∧ ∀ c, c ≠ 167 → c ≠ 170 → c ≠ 172 → c ≠ 173 → c ≠ 174 → S' c = S c := by
  obtain ⟨⟨h1, h2, h3⟩, hi, hb⟩ := h
  obtain ⟨k3, k4, k5, k6, k7, k8⟩ := hi.1
  have hK := h2.1 4 (by omega)
  generalize hN : q.2.2.1 4 = N at *
  generalize hY : rwF (S 173) 14 (fun k => S 171 (19 + 2 * k + 1)) N = Y
  have e1 : fX11_table_245 167 (hp S J T) = fX11_table_285 167 (hp (stR S 173 Y) J T) := by
    unfold fX11_table_245
    rw [kI_0]
    have hh := for_at lX11_table_247 fX11_table_247 (fun _ => rfl) (fun K k (R : Row) => K 167 (nI k) (hp (stR S 173 R) J T)) N (rwF (S 173) 14 (fun k => S 171 (19 + 2 * k + 1))) (fX11_table_285 167 (hp (stR S 173 Y) J T)) (fun K k hk => by
      show fX11_table_247 K 167 (nI k) (hp (stR S 173 (rwF (S 173) 14 (fun k => S 171 (19 + 2 * k + 1)) k)) J T) = K 167 (nI (k + 1)) (hp (stR S 173 (rwF (S 173) 14 (fun k => S 171 (19 + 2 * k + 1)) (k + 1))) J T)
      unfold fX11_table_247
      rw [mo_f16, Option.bind_some, kI_4, mo_r16 (by omega), Option.bind_some, stR_ne (show 171 ≠ 173 by omega), hK, if_pos (ltn hk (by omega))]
      unfold fX11_table_257
      rw [mo_f18, Option.bind_some, mo_f16, Option.bind_some, kB_19, kI_2, ix2, kI_1, nI_add, mo_r16 (by omega), Option.bind_some, stR_ne (show 171 ≠ 173 by omega), kB_14, nI_add, mo_w18 (by omega), Option.bind_some, stS_R, stR_stR, stR_eq, nI_add, ← rwF_s]) (fun K => by
      show fX11_table_247 K 167 (nI N) (hp (stR S 173 (rwF (S 173) 14 (fun k => S 171 (19 + 2 * k + 1)) N)) J T) = _
      unfold fX11_table_247
      rw [mo_f16, Option.bind_some, kI_4, mo_r16 (by omega), Option.bind_some, stR_ne (show 171 ≠ 173 by omega), hK, if_neg (nltn (Nat.lt_irrefl _) (by omega) (by omega)), hY]) (FU_lt (by omega))
    have hh' : lX11_table_247 FU 167 (nI 0) (hp (stR S 173 (rwF (S 173) 14 (fun k => S 171 (19 + 2 * k + 1)) 0)) J T) = fX11_table_285 167 (hp (stR S 173 Y) J T) := hh
    rwa [rwF_0, stR_self] at hh'
  generalize hS2 : stR (stR (stR (stR (stR S 173 Y) 170 (cpA (S 171) (S 170) 0 0 188)) 172 (cpA Y (S 172) 0 0 22)) 174 (cpA Y (S 174) 0 0 22)) 167 (up (up (up (S 167) 14 (nI 1)) 23 (nI 0)) 24 (nI 0)) = S2
  have x170 : S2 170 = cpA (S 171) (S 170) 0 0 188 := by rw [← hS2, stR_ne (by omega), stR_ne (by omega), stR_ne (by omega), stR_eq]
  have x172 : S2 172 = cpA Y (S 172) 0 0 22 := by rw [← hS2, stR_ne (by omega), stR_ne (by omega), stR_eq]
  have x174 : S2 174 = cpA Y (S 174) 0 0 22 := by rw [← hS2, stR_ne (by omega), stR_eq]
  have x167 : S2 167 = up (up (up (S 167) 14 (nI 1)) 23 (nI 0)) 24 (nI 0) := by rw [← hS2, stR_eq]
  have xo : ∀ c, c ≠ 167 → c ≠ 170 → c ≠ 172 → c ≠ 173 → c ≠ 174 → S2 c = S c := fun c q1 q2 q3 q4 q5 => by rw [← hS2, stR_ne q1, stR_ne q5, stR_ne q3, stR_ne q2, stR_ne q4]
  have cA : ∀ (A B : Row) (m j : Nat), j < m → cpA A B 0 0 m j = A j := fun A B m j hj => by
    unfold cpA
    rw [if_pos (by omega), show 0 + (j - 0) = j by omega]
  have yl : ∀ j, j < 14 → Y j = S 173 j := fun j hj => by rw [← hY]; exact if_neg (by omega)
  have yh : ∀ k, k < N → Y (14 + k) = S 171 (20 + 2 * k) := fun k hk => by
    rw [← hY]
    unfold rwF
    rw [if_pos (by omega), show 14 + k - 14 = k by omega]
    show S 171 (19 + 2 * k + 1) = _
    rw [show 19 + 2 * k + 1 = 20 + 2 * k by omega]
  refine ⟨S2, ?_, fun j hj => ?_, fun j hj => ?_, fun k hk => ?_, ?_, ?_, ?_, ?_, fun j q1 q2 q3 => ?_, xo⟩
  · rw [e1]
    unfold fX11_table_285
    rw [mo_f16, Option.bind_some, mo_f15, Option.bind_some]
    unfold fX11_table_298
    rw [kI_0, kS_188, c_cpy (c1 := 171) (c2 := 170) (n1 := 188) (n2 := 188) rfl rfl (by omega) (show 0 + 188 ≤ 188 by omega) (show 0 + 188 ≤ 188 by omega) (by omega) (by omega), Option.bind_some, stR_ne (show 171 ≠ 173 by omega), stR_ne (show 170 ≠ 173 by omega)]
    unfold fX11_table_301
    rw [mo_f18, Option.bind_some, mo_f17, Option.bind_some]
    unfold fX11_table_313
    rw [kI_0, kB_22, c_cpy (c1 := 173) (c2 := 172) (n1 := 22) (n2 := 22) rfl rfl (by omega) (show 0 + 22 ≤ 22 by omega) (show 0 + 22 ≤ 22 by omega) (by omega) (by omega), Option.bind_some, stR_ne (show 173 ≠ 170 by omega), stR_eq, stR_ne (show 172 ≠ 170 by omega), stR_ne (show 172 ≠ 173 by omega)]
    unfold fX11_table_316
    rw [mo_f18, Option.bind_some, mo_f19, Option.bind_some]
    unfold fX11_table_328
    rw [kI_0, kB_22, c_cpy (c1 := 173) (c2 := 174) (n1 := 22) (n2 := 22) rfl rfl (by omega) (show 0 + 22 ≤ 22 by omega) (show 0 + 22 ≤ 22 by omega) (by omega) (by omega), Option.bind_some, stR_ne (show 173 ≠ 172 by omega), stR_ne (show 173 ≠ 170 by omega), stR_eq, stR_ne (show 174 ≠ 172 by omega), stR_ne (show 174 ≠ 170 by omega), stR_ne (show 174 ≠ 173 by omega)]
    unfold fX11_table_331
    rw [kI_1, kI_0, mo_p14 o_1, Option.bind_some, stS_R, stR_ne (show 167 ≠ 174 by omega), stR_ne (show 167 ≠ 172 by omega), stR_ne (show 167 ≠ 170 by omega), stR_ne (show 167 ≠ 173 by omega), mo_p23, Option.bind_some, stS_R, stR_stR, stR_eq, mo_p24, Option.bind_some, stS_R, stR_stR, stR_eq, mo_f15, Option.bind_some, kI_3, mo_r15 (by omega), Option.bind_some, hS2, x170, cA _ _ _ _ (by omega), h2.1 3 (by omega)]
  · rw [x170, cA _ _ _ _ hj]
  · rw [x172, cA _ _ _ _ (by omega), yl j hj]
  · rw [x172, cA _ _ _ _ (by omega), yh k hk]
  · rw [x174]
    funext j
    unfold cpR
    by_cases z : j < 22
    · rw [if_pos z, x172, cA _ _ _ _ z, cA _ _ _ _ z]
    · rw [if_neg z]
      unfold cpA
      rw [if_neg (by omega)]
  · rw [x167, up_ne (by omega), up_ne (by omega), up_eq]
  · rw [x167, up_ne (by omega), up_eq]
  · rw [x167, up_eq]
  · rw [x167, up_ne q3, up_ne q2, up_ne q1]
end RMF

-- THE SMALLEST BOWL, ASKED
section Q13
variable {S S1 : Mem} {J : MeJ} {T : Nat → Nat} {t a w P N F U E D : Nat} {ht : Bool}
set_option maxRecDepth 100000 in
set_option maxHeartbeats 400000 in
theorem up_up0 {r : Row} {i : Nat} {x y : Int32} : up (up r i x) i y = up r i y := by
  funext j
  by_cases h : j = i
  · rw [h, up_eq, up_eq]
  · rw [up_ne h, up_ne h, up_ne h]
set_option maxRecDepth 100000 in
set_option maxHeartbeats 400000 in
theorem up_id {r : Row} {i : Nat} : up r i (r i) = r := by
  funext j
  by_cases h : j = i
  · rw [h, up_eq]
  · rw [up_ne h]
set_option maxRecDepth 100000 in
set_option maxHeartbeats 400000 in
theorem l_bowlC (b1 : tlA (T 0)) (b2 : 56 ≤ T 0) (hy : Yes S (T 0) P N F U E) {n : Nat} (hn : n ≤ 60) : ∀ (m b f : Nat) (S1 : Mem), b + m = 21 → m < f → S1 (T 0) = S (T 0) → S1 139 = S 139 → ∃ S', lX10_bowlFor_19 f 0 (nI n) (nI b) (hp S1 J T) = some (oi (bF (kp (S 170) P N F (S 174) n) m b), hp S' J T) ∧ fr S1 S' [7, 8, 12, 15, 16] := by
  intro m
  induction m with
  | zero =>
    intro b f S1 hk hf h1 h2
    obtain ⟨f, rfl⟩ : ∃ g, f = g + 1 := ⟨f - 1, by omega⟩
    obtain rfl : b = 21 := by omega
    refine ⟨S1, ?_, fr_rf _ _⟩
    unfold lX10_bowlFor_19
    simp (disch := omega) only [gX10_bowlFor, fX10_bowlFor_0, fX10_bowlFor_2, fX10_bowlFor_5, fX10_bowlFor_9, fX10_bowlFor_12, fX10_bowlFor_15, fX10_bowlFor_17, fX10_bowlFor_19, fX10_bowlFor_25, fX10_bowlFor_28, fX10_bowlFor_31, fX10_bowlFor_34, fX10_bowlFor_36, fX10_bowlFor_42, lt_isO, kI_0, kB_60, kI_n, kI_1, kB_20, kB_o, Option.bind_some, n35, n9, n19, n51, n59, nI_add, ix2, ix8, ix22, ix5, ↓reduceIte, lt_eq, show 20 < 21 by omega, bF]
  | succ m ih =>
    intro b f S1 hk hf h1 h2
    obtain ⟨f, rfl⟩ : ∃ g, f = g + 1 := ⟨f - 1, by omega⟩
    obtain ⟨S2, g1, g2⟩ := c_keep (S := S) (S1 := S1) (J := J) (T := T) (b := b) b1 b2 hy h1 h2 (by omega) hn
    unfold lX10_bowlFor_19 bF
    cases hc : kp (S 170) P N F (S 174) n b with
    | true =>
      rw [hc] at g1
      refine ⟨S2, ?_, g2⟩
      simp (disch := omega) only [gX10_bowlFor, fX10_bowlFor_0, fX10_bowlFor_2, fX10_bowlFor_5, fX10_bowlFor_9, fX10_bowlFor_12, fX10_bowlFor_15, fX10_bowlFor_17, fX10_bowlFor_19, fX10_bowlFor_25, fX10_bowlFor_28, fX10_bowlFor_31, fX10_bowlFor_34, fX10_bowlFor_36, fX10_bowlFor_42, lt_isO, kI_0, kB_60, kI_n, kI_1, kB_20, kB_o, Option.bind_some, n35, n9, n19, n51, n59, nI_add, ix2, ix8, ix22, ix5, ↓reduceIte, lt_isO, lt_eq, show ¬ 20 < b by omega, g1, bI_t, n1_0, oi_some]
    | false =>
      rw [hc] at g1
      obtain ⟨S3, k1, k2⟩ := ih (b + 1) f S2 (by omega) (by omega) (by rw [g2 (T 0) (by simp; omega), h1]) (by rw [g2 139 (by decide), h2])
      refine ⟨S3, ?_, fr_tr g2 k2⟩
      rw [if_neg (by decide), ← k1]
      simp (disch := omega) only [gX10_bowlFor, fX10_bowlFor_0, fX10_bowlFor_2, fX10_bowlFor_5, fX10_bowlFor_9, fX10_bowlFor_12, fX10_bowlFor_15, fX10_bowlFor_17, fX10_bowlFor_19, fX10_bowlFor_25, fX10_bowlFor_28, fX10_bowlFor_31, fX10_bowlFor_34, fX10_bowlFor_36, fX10_bowlFor_42, lt_isO, kI_0, kB_60, kI_n, kI_1, kB_20, kB_o, Option.bind_some, n35, n9, n19, n51, n59, nI_add, ix2, ix8, ix22, ix5, ↓reduceIte, lt_isO, lt_eq, show ¬ 20 < b by omega, g1, bI_f, n0_0]
-- the reference tries each bowl in the table itself
set_option maxRecDepth 100000 in
set_option maxHeartbeats 400000 in
theorem m_bowl1 {b : Nat} (hy : Yes S t P N F U E) (h0r : S1 170 = up (S 170) 0 (nI b)) (h0s : S1 174 = S 174) {n : Nat} (hb : b ≤ 20) (hn : n ≤ 60) : ∃ S', gX11_daysOn 167 (nI n) (hp S1 J T) = some (hp S' J T) ∧ decide (S' 175 10 = S 174 10) = kp (S 170) P N F (S 174) n b ∧ mfr S1 S' := by
  obtain ⟨y1, y2, y3, y4, y5, y6, y7, y8⟩ := hy
  have hP5 := y1.1.2.1
  have hR : agR (cpR (S1 174) (S1 175) 22) (S 174) P N := agR_cp hP5 y1.1.2.2.2.1 (by rw [h0s]; exact agR_rf _ _ _)
  obtain ⟨S', k1, k2, k3⟩ := c_daysOn (S := S1) (J := J) (T := T) (P := P) (N := N) (F := F) (D := 999) (by rw [h0r]; exact u0_TbS hb y1.1) (by rw [h0r, up_ne (by omega)]; exact y1.2.2.1) y1.2.2.2.1 (Inv_ag hR y6) (n := n) (by omega) rfl
  refine ⟨S', k1, ?_, k3⟩
  have e := k2.1
  rw [h0r, up_eq, u0_dyN] at e
  unfold kp
  rw [e, (dyN_ag (agT_rf _ P N F) hR hP5 n).2.1 10 (by omega) (by omega)]
def mbI (S S1 : Mem) : Prop := fr S S1 [167, 170, 175, 178, 179] ∧ (∃ x, S1 170 = up (S 170) 0 x) ∧ ∀ j, j ≠ 25 → j ≠ 26 → S1 167 j = S 167 j
set_option maxRecDepth 100000 in
set_option maxHeartbeats 400000 in
theorem mbI_e (h : mbI S S1) : mfr S (stR S1 170 (up (S1 170) 0 (S 170 0))) := by
  obtain ⟨h1, ⟨x, h2⟩, h3⟩ := h
  refine ⟨fun c hc => ?_, fun j a b => by rw [stR_ne (by omega)]; exact h3 j a b⟩
  by_cases e : c = 170
  · subst e
    rw [stR_eq, h2, up_up0, up_id]
  · rw [stR_ne e]
    refine h1 c (fun z => hc ?_)
    simp only [List.mem_cons, List.not_mem_nil, or_false] at z ⊢
    omega
set_option maxRecDepth 100000 in
set_option maxHeartbeats 400000 in
theorem l_bowlM {B : Mem} (hy : Yes S t P N F U E) (hB0 : B 170 = S 170) (hB4 : B 174 = S 174) {n : Nat} (hn : n ≤ 60) : ∀ (m b f : Nat) (S1 : Mem), b + m = 21 → m + 1 < f → mbI B S1 → ∃ S', lX11_bowlFor_39 f 167 (nI n) (S 170 0) (oi none) (nI b) (hp S1 J T) = some (oi (bF (kp (S 170) P N F (S 174) n) m b), hp S' J T) ∧ mfr B S' := by
  intro m
  induction m with
  | zero =>
    intro b f S1 hk hf h1
    obtain ⟨f, rfl⟩ : ∃ g, f = g + 1 := ⟨f - 1, by omega⟩
    obtain rfl : b = 21 := by omega
    refine ⟨stR S1 170 (up (S1 170) 0 (S 170 0)), ?_, by rw [← hB0]; exact mbI_e h1⟩
    unfold lX11_bowlFor_39
    simp (disch := omega) only [gX11_bowlFor, fX11_bowlFor_0, fX11_bowlFor_1, fX11_bowlFor_4, fX11_bowlFor_11, fX11_bowlFor_14, fX11_bowlFor_19, fX11_bowlFor_21, fX11_bowlFor_24, fX11_bowlFor_25, fX11_bowlFor_39, fX11_bowlFor_46, fX11_bowlFor_51, fX11_bowlFor_61, fX11_bowlFor_64, fX11_bowlFor_81, fX11_bowlFor_85, fX11_bowlFor_91, mo_isO, mo_g14, kI_0, mo_f15, mo_r15, mo_w15, kB_o, kI_1, kB_20, mo_f20, mo_r20, mo_w20, kB_10, mo_f19, mo_r19, mo_w19, Option.bind_some, n35, n9, n19, n51, n59, nI_add, ix2, ix8, ix22, ix5, ↓reduceIte, stS_R, lt_eq, show 20 < 21 by omega, bF]
  | succ m ih =>
    intro b f S1 hk hf h1
    obtain ⟨f, rfl⟩ : ∃ g, f = g + 1 := ⟨f - 1, by omega⟩
    obtain ⟨i1, ⟨x, i2⟩, i3⟩ := id h1
    obtain ⟨S2, g1, g2, g3, g4⟩ := m_bowl1 (S := S) (S1 := stR S1 170 (up (S1 170) 0 (nI b))) (J := J) (T := T) hy (by rw [stR_eq, i2, up_up0, hB0]) (by rw [stR_ne (by omega), i1 174 (by decide), hB4]) (b := b) (by omega) hn
    have h2 : mbI B S2 := by
      refine ⟨fun c hc => ?_, ⟨nI b, ?_⟩, fun j a b => ?_⟩
      · simp only [List.mem_cons, List.not_mem_nil, or_false] at hc
        rw [g3 c (by simp only [List.mem_cons, List.not_mem_nil, or_false]; omega), stR_ne (by omega)]
        exact i1 c (by simp only [List.mem_cons, List.not_mem_nil, or_false]; omega)
      · rw [g3 170 (by decide), stR_eq, i2, up_up0]
      · rw [g4 j a b, stR_ne (by omega)]; exact i3 j a b
    have e174 : S2 174 = S 174 := by rw [h2.1 174 (by decide), hB4]
    unfold bF
    cases hc : kp (S 170) P N F (S 174) n b with
    | true =>
      have hd : S2 175 10 = S 174 10 := by rw [hc] at g2; exact of_decide_eq_true g2
      obtain ⟨f, rfl⟩ : ∃ g, f = g + 1 := ⟨f - 1, by omega⟩
      refine ⟨stR S2 170 (up (S2 170) 0 (S 170 0)), ?_, by rw [← hB0]; exact mbI_e h2⟩
      unfold lX11_bowlFor_39
      by_cases h20 : 20 < b + 1
      · simp (disch := omega) only [gX11_bowlFor, fX11_bowlFor_0, fX11_bowlFor_1, fX11_bowlFor_4, fX11_bowlFor_11, fX11_bowlFor_14, fX11_bowlFor_19, fX11_bowlFor_21, fX11_bowlFor_24, fX11_bowlFor_25, fX11_bowlFor_39, fX11_bowlFor_46, fX11_bowlFor_51, fX11_bowlFor_61, fX11_bowlFor_64, fX11_bowlFor_81, fX11_bowlFor_85, fX11_bowlFor_91, mo_isO, mo_g14, kI_0, mo_f15, mo_r15, mo_w15, kB_o, kI_1, kB_20, mo_f20, mo_r20, mo_w20, kB_10, mo_f19, mo_r19, mo_w19, Option.bind_some, n35, n9, n19, n51, n59, nI_add, ix2, ix8, ix22, ix5, ↓reduceIte, stS_R, lt_eq, show ¬ 20 < b by omega, on_lt, g1, e174, hd, lX11_bowlFor_39, h20, oi_some]
      · simp (disch := omega) only [gX11_bowlFor, fX11_bowlFor_0, fX11_bowlFor_1, fX11_bowlFor_4, fX11_bowlFor_11, fX11_bowlFor_14, fX11_bowlFor_19, fX11_bowlFor_21, fX11_bowlFor_24, fX11_bowlFor_25, fX11_bowlFor_39, fX11_bowlFor_46, fX11_bowlFor_51, fX11_bowlFor_61, fX11_bowlFor_64, fX11_bowlFor_81, fX11_bowlFor_85, fX11_bowlFor_91, mo_isO, mo_g14, kI_0, mo_f15, mo_r15, mo_w15, kB_o, kI_1, kB_20, mo_f20, mo_r20, mo_w20, kB_10, mo_f19, mo_r19, mo_w19, Option.bind_some, n35, n9, n19, n51, n59, nI_add, ix2, ix8, ix22, ix5, ↓reduceIte, stS_R, lt_eq, show ¬ 20 < b by omega, on_lt, g1, e174, hd, lX11_bowlFor_39, h20, nI_lt0, oi_some]
    | false =>
      have hd : ¬ S2 175 10 = S 174 10 := by rw [hc] at g2; exact of_decide_eq_false g2
      obtain ⟨S3, k1, k2⟩ := ih (b + 1) f S2 (by omega) (by omega) h2
      refine ⟨S3, ?_, k2⟩
      rw [if_neg (by decide), ← k1]
      conv => lhs; unfold lX11_bowlFor_39
      simp (disch := omega) only [gX11_bowlFor, fX11_bowlFor_0, fX11_bowlFor_1, fX11_bowlFor_4, fX11_bowlFor_11, fX11_bowlFor_14, fX11_bowlFor_19, fX11_bowlFor_21, fX11_bowlFor_24, fX11_bowlFor_25, fX11_bowlFor_39, fX11_bowlFor_46, fX11_bowlFor_51, fX11_bowlFor_61, fX11_bowlFor_64, fX11_bowlFor_81, fX11_bowlFor_85, fX11_bowlFor_91, mo_isO, mo_g14, kI_0, mo_f15, mo_r15, mo_w15, kB_o, kI_1, kB_20, mo_f20, mo_r20, mo_w20, kB_10, mo_f19, mo_r19, mo_w19, Option.bind_some, n35, n9, n19, n51, n59, nI_add, ix2, ix8, ix22, ix5, ↓reduceIte, stS_R, lt_eq, show ¬ 20 < b by omega, on_lt, g1, e174, hd]
set_option maxRecDepth 100000 in
set_option maxHeartbeats 400000 in
theorem q_bowlFor (h : Rl S T) (n : Int32) : bth (fun h => gX10_bowlFor 0 n h) (fun h => gX11_bowlFor 167 n h) S J T := by
  obtain ⟨ht, P, N, F, U, E, hB⟩ := Rl_bas h
  obtain ⟨b1, b2, b3, b4, b5, b6, b7, b8, b9, b10⟩ := id hB
  cases hno : (ht && inB n (nI 0) (nI 60)) with
  | false =>
    refine bth_q h (v := m1) (tr := why ht (inB n (nI 0) (nI 60))) (cq_no ?_) (fun S1 hf => mq_no (X := up (nw S1) 11 (why ht (inB n (nI 0) (nI 60)))) ?_ up_eq (nw_p S1 _)) (why_4 _ _)
    · simp (disch := omega) only [gX10_bowlFor, fX10_bowlFor_0, fX10_bowlFor_2, fX10_bowlFor_5, fX10_bowlFor_9, fX10_bowlFor_12, fX10_bowlFor_15, fX10_bowlFor_17, fX10_bowlFor_19, fX10_bowlFor_25, fX10_bowlFor_28, fX10_bowlFor_31, fX10_bowlFor_34, fX10_bowlFor_36, fX10_bowlFor_42, lt_isO, kI_0, kB_60, kI_n, kI_1, kB_20, kB_o, Option.bind_some, n35, n9, n19, n51, n59, nI_add, ix2, ix8, ix22, ix5, ↓reduceIte, lt_isO, c_lacksTable b1 b3 b5, b8, c_isRefused, hno, Bool.not_false, bI_t, n1_0]
    · have h14 : S1 167 14 = bI ht := by rw [hf 167 (by decide)]; exact b7
      simp (disch := omega) only [gX11_bowlFor, fX11_bowlFor_0, fX11_bowlFor_1, fX11_bowlFor_4, fX11_bowlFor_11, fX11_bowlFor_14, fX11_bowlFor_19, fX11_bowlFor_21, fX11_bowlFor_24, fX11_bowlFor_25, fX11_bowlFor_39, fX11_bowlFor_46, fX11_bowlFor_51, fX11_bowlFor_61, fX11_bowlFor_64, fX11_bowlFor_81, fX11_bowlFor_85, fX11_bowlFor_91, mo_isO, mo_g14, kI_0, mo_f15, mo_r15, mo_w15, kB_o, kI_1, kB_20, mo_f20, mo_r20, mo_w20, kB_10, mo_f19, mo_r19, mo_w19, Option.bind_some, n35, n9, n19, n51, n59, nI_add, ix2, ix8, ix22, ix5, ↓reduceIte, c_anew, stR_eq, up_ne, h14, c_aheadWhy, why_ne hno, c_no, stR_stR, nw]
  | true =>
    rw [Bool.and_eq_true] at hno
    obtain ⟨rfl, hin⟩ := hno
    obtain ⟨k, _, hk2, rfl⟩ := inB_t (by omega) (by omega) hin
    have hlk := c_lack1 (J := J) hB
    have hy := b9 rfl
    refine bth_q h (v := oi (bF (kp (S 170) P N F (S 174) k) 20 1)) (tr := nI 0) ?_ (fun S1 hf => ?_) n0_4
    · obtain ⟨S', k1, k2⟩ := l_bowlC (S := S) (J := J) b1 b2 hy hk2 20 1 FU (stR S 0 (up (S 0) 11 (nI 0))) (by omega) (FU_lt (by omega)) (by rw [stR_ne (by omega)]) (by rw [stR_ne (by omega)])
      have f0 : S' 0 = up (S 0) 11 (nI 0) := by rw [k2 0 (by decide), stR_eq]
      refine ⟨S', ?_, fr_CL (fr_st (fr_rf S _) (by decide)) k2, by rw [f0, up_eq], by rw [f0, up_ne (by omega)]⟩
      rw [← k1]
      simp (disch := omega) only [gX10_bowlFor, fX10_bowlFor_0, fX10_bowlFor_2, fX10_bowlFor_5, fX10_bowlFor_9, fX10_bowlFor_12, fX10_bowlFor_15, fX10_bowlFor_17, fX10_bowlFor_19, fX10_bowlFor_25, fX10_bowlFor_28, fX10_bowlFor_31, fX10_bowlFor_34, fX10_bowlFor_36, fX10_bowlFor_42, lt_isO, kI_0, kB_60, kI_n, kI_1, kB_20, kB_o, Option.bind_some, n35, n9, n19, n51, n59, nI_add, ix2, ix8, ix22, ix5, ↓reduceIte, lt_isO, hlk, c_isRef1 hin, n0_0]
    · have e170 : S1 170 = S 170 := hf 170 (by decide)
      have h14 : nw S1 14 = nI 1 := by rw [nw14, hf 167 (by decide)]; exact b7
      have hanew : gX11_anew 167 (hp S1 J T) = some (hp (stR S1 167 (nw S1)) J T) := c_anew
      obtain ⟨S', k1, k2⟩ := l_bowlM (S := S) (B := stR S1 167 (nw S1)) (J := J) (T := T) (t := T 0) hy (by rw [stR_ne (by omega)]; exact e170) (by rw [stR_ne (by omega)]; exact hf 174 (by decide)) hk2 20 1 FU (stR S1 167 (nw S1)) (by omega) (FU_lt (by omega)) ⟨fr_rf _ _, ⟨_, up_id.symm⟩, fun _ _ _ => rfl⟩
      obtain ⟨q1, q2, q3⟩ := mfr_q k2
      refine ⟨S', ?_, q1, q2, q3⟩
      rw [← k1]
      simp (disch := omega) only [gX11_bowlFor, fX11_bowlFor_0, fX11_bowlFor_1, fX11_bowlFor_4, fX11_bowlFor_11, fX11_bowlFor_14, fX11_bowlFor_19, fX11_bowlFor_21, fX11_bowlFor_24, fX11_bowlFor_25, fX11_bowlFor_39, fX11_bowlFor_46, fX11_bowlFor_51, fX11_bowlFor_61, fX11_bowlFor_64, fX11_bowlFor_81, fX11_bowlFor_85, fX11_bowlFor_91, mo_isO, mo_g14, kI_0, mo_f15, mo_r15, mo_w15, kB_o, kI_1, kB_20, mo_f20, mo_r20, mo_w20, kB_10, mo_f19, mo_r19, mo_w19, Option.bind_some, n35, n9, n19, n51, n59, nI_add, ix2, ix8, ix22, ix5, ↓reduceIte, hanew, stR_eq, h14, c_ahead1 hin, n0_0, stR_ne, e170]
end Q13

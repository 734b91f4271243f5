-- A GUEST FOR A NAME; WHAT IS TOLD
set_option maxRecDepth 100000 in
set_option maxHeartbeats 400000 in
theorem Rl_q2 {S S' : Mem} {T : Nat → Nat} (h : Rl S T) (hf : fr S S' (CL ++ ML)) (h12 : S' 0 12 = S 0 12) (h11 : S' 0 11 = S 0 11) (h4 : S' 167 11 = S 167 11) (hp : ∀ j, j ∈ pM → S' 167 j = S 167 j) : Rl S' T := by
  obtain ⟨h0, h1, h2, h3⟩ := h
  have ho : ∀ c, c ∉ CL ++ ML → S' c = S c := hf
  have e1 : S' 1 = S 1 := ho 1 (by decide)
  have e2 : S' 2 = S 2 := ho 2 (by decide)
  have e168 : S' 168 = S 168 := ho 168 (by decide)
  have e170 : S' 170 = S 170 := ho 170 (by decide)
  have e172 : S' 172 = S 172 := ho 172 (by decide)
  have e174 : S' 174 = S 174 := ho 174 (by decide)
  have e176 : S' 176 = S 176 := ho 176 (by decide)
  have e177 : S' 177 = S 177 := ho 177 (by decide)
  have e139 : S' 139 = S 139 := ho 139 (by decide)
  have e56 : S' 56 = S 56 := ho 56 (by decide)
  have e122 : S' 122 = S 122 := ho 122 (by decide)
  have et : S' (T 0) = S (T 0) := by
    rcases h0 with z | z
    · rw [z.1]; exact ho 143 (by decide)
    · rw [z.1]; exact ho 155 (by decide)
  have eh : ∀ k, k < 16 → S' (58 + 4 * k) = S (58 + 4 * k) := fun k hk => ho _ (by
    have : ∀ k, k < 16 → (58 + 4 * k) ∉ CL ++ ML := by decide
    exact this k hk)
  have ei : ∀ k, k < 3 → S' (124 + 4 * k) = S (124 + 4 * k) := fun k hk => ho _ (by
    have : ∀ k, k < 3 → (124 + 4 * k) ∉ CL ++ ML := by decide
    exact this k hk)
  have p2 := hp 2 (by decide)
  have p9 := hp 9 (by decide)
  have p10 := hp 10 (by decide)
  have p14 := hp 14 (by decide)
  have p23 := hp 23 (by decide)
  have p24 := hp 24 (by decide)
  refine ⟨h0, ?_, ⟨by rw [h11, h4]; exact h2.1, ?_, fun z => by rw [e1, p10]; exact h2.2.2 (by rw [← h4]; exact z)⟩, ?_⟩
  · unfold Tpe at h1 ⊢
    rw [e1, e2, e168, p2]
    exact h1
  · rw [h12, p9]; exact h2.2.1
  · rw [p14]
    rcases h3 with ⟨z1, P, N, F, U, E, z2, z3⟩ | ⟨z1, z2⟩
    · have z3' : FdA S' P := by
        unfold FdA rw22 at z3 ⊢
        rw [e174, e176, e177, p23, p24]
        exact z3
      refine Or.inl ⟨z1, P, N, F, U, E, ?_, z3'⟩
      obtain ⟨y1, y2, y3, y4, y5, y6, ⟨u, x, w1, w2, w3, w4, w5, w6⟩, ⟨v, v1, v2, v3, v4⟩⟩ := z2
      refine ⟨by rw [e170]; exact y1, by rw [e170, et]; exact y2, by rw [e170, et]; exact y3, ?_, by rw [e139, e174]; exact y5, by rw [e174]; exact y6, ⟨u, x, w1, w2, by rw [e56]; exact w3, by rw [e56]; exact w4, by rw [p23]; exact w5, fun i hi => ?_⟩, ⟨v, v1, by rw [e122]; exact v2, by rw [p24]; exact v3, fun i hi => ?_⟩⟩
      · unfold Tld at y4 ⊢
        rw [et, e172]
        exact y4
      · have := w6 i hi
        unfold rw22 at this ⊢
        rw [eh _ (Nat.mod_lt _ (by omega)), e176]
        exact this
      · have := v4 i hi
        unfold rw22 at this ⊢
        rw [ei i (by omega), e177]
        exact this
    · refine Or.inr ⟨z1, ?_⟩
      unfold Nay at z2 ⊢
      rw [et, e139, e56, e122, p23, p24]
      exact z2

set_option maxRecDepth 100000 in
set_option maxHeartbeats 400000 in
theorem nmN {r : Row} {N : Nat} {f : Nat → Nat} (hf : ∀ k, k < N → r (19 + 2 * k) = nI (f k) ∧ f k ≤ 200) {h : Nat} (hh : h < 2147483648) {k : Nat} (hk : nm r N (nI h) = some k) : f k ≤ h ∧ ∀ j, j < N → f j ≤ h → f j ≤ f k := by
  have a := nm_AM r N (nI h)
  rw [hk] at a
  obtain ⟨a1, a2, a3, a4⟩ := a
  have ti : ∀ j, j < N → (r (19 + 2 * j)).toInt = (f j : Int) := fun j hj => by
    have q := hf j hj
    rw [q.1]
    show (Int32.ofNat (f j)).toInt = _
    rw [Int32.toInt_ofNat_of_lt (by omega)]
  have le : ∀ j, j < N → (f j ≤ h ↔ (!decide (nI h < r (19 + 2 * j))) = true) := fun j hj => by
    rw [(hf j hj).1]
    have hb := (hf j hj).2
    by_cases z : h < f j
    · rw [decide_eq_true ((nI_ltI hh (by omega)).mpr z)]
      exact ⟨fun q => by omega, fun q => by cases q⟩
    · rw [decide_eq_false (fun q => z ((nI_ltI hh (by omega)).mp q))]
      exact ⟨fun _ => rfl, fun _ => by omega⟩
  refine ⟨(le k a1).mpr a2, fun j hj hjh => ?_⟩
  have b1 := ti j hj
  have b2 := ti k a1
  have b3 := (le j hj).mp hjh
  rcases Nat.lt_trichotomy j k with z | z | z
  · have := a3 j z b3; dsimp only at this; omega
  · rw [z]; exact Nat.le_refl _
  · have := a4 j z hj b3; dsimp only at this; omega
set_option maxRecDepth 100000 in
set_option maxHeartbeats 400000 in
theorem nmY {r : Row} {N : Nat} {f : Nat → Nat} (hf : ∀ k, k < N → r (19 + 2 * k) = nI (f k) ∧ f k ≤ 200) {k : Nat} (hk : k < N) (hd : ∀ j, j < N → j ≠ k → f j ≠ f k) : nm r N (nI (f k)) = some k := by
  obtain ⟨j, hj, hjN⟩ := nm_some (r := r) (N := N) (hg := nI (f k)) ⟨k, hk, by rw [(hf k hk).1]; exact fun z => by have := (nI_ltI (a := f k) (b := f k) (by have := (hf k hk).2; omega) (by have := (hf k hk).2; omega)).mp z; omega⟩
  obtain ⟨q1, q2⟩ := nmN hf (h := f k) (by have := (hf k hk).2; omega) hj
  have q3 := q2 k hk (Nat.le_refl _)
  rw [hj]
  by_cases e : j = k
  · rw [e]
  · exact absurd (by omega) (hd j hjN e)
section Q9
variable {S S1 : Mem} {J : MeJ} {T : Nat → Nat} {t a w P N F U E : Nat} {ht : Bool}
-- the reference's search: nothing up to b
set_option maxRecDepth 100000 in
set_option maxHeartbeats 400000 in
theorem l_guestS {r : Row} (hr : S 170 = r) (hN : r 4 = nI N) (hN8 : N ≤ 8) {k : Nat} (hk : k < 8) : ∀ (m a f : Nat), a + m ≤ 1000 → (∀ h, a ≤ h → h < a + m → nm r N (nI h) ≠ some k) → lX11_guestFor_43 (f + m) 167 (nI k) (nI a) (hp S J T) = lX11_guestFor_43 f 167 (nI k) (nI (a + m)) (hp S J T) := by
  subst hr
  intro m
  induction m with
  | zero => intro a f _ _; rfl
  | succ m ih =>
    intro a f ha hno
    have h1 := hno a (Nat.le_refl _) (by omega)
    have hne : (oi (nm (S 170) N (nI a)) = nI k) = False := by
      refine eq_false (fun z => h1 ?_)
      cases e : nm (S 170) N (nI a) with
      | none => rw [e, on_nI (by omega)] at z; exact z.elim
      | some j =>
        have := nm_lt j e
        rw [e, oi_some, eq_eq (by omega) (by omega)] at z
        rw [z]
    have e : lX11_guestFor_43 (f + (m + 1)) 167 (nI k) (nI a) (hp S J T) = lX11_guestFor_43 (f + m) 167 (nI k) (nI (a + 1)) (hp S J T) := by
      rw [show f + (m + 1) = (f + m) + 1 by omega]
      conv => lhs; unfold lX11_guestFor_43
      simp (disch := omega) only [fX11_guestFor_43, fX11_guestFor_50, fX11_guestFor_52, fX11_guestFor_55, fX11_guestFor_61, kS_999, lt_eq, show ¬ 999 < a by omega, ↓reduceIte, mo_isO, Option.bind_some, c_nameAt hN hN8, hne, kI_1, nI_add]
    rw [e, ih (a + 1) f (by omega) (fun h h1 h2 => hno h (by omega) (by omega)), show a + 1 + m = a + (m + 1) by omega]
set_option maxRecDepth 100000 in
set_option maxHeartbeats 400000 in
theorem l_guestY {r : Row} (hr : S 170 = r) (hN : r 4 = nI N) (hN8 : N ≤ 8) {k a f : Nat} (ha : a ≤ 999) (hy : nm r N (nI a) = some k) : lX11_guestFor_43 (f + 1) 167 (nI k) (nI a) (hp S J T) = some (nI a, hp S J T) := by
  subst hr
  unfold lX11_guestFor_43
  simp (disch := omega) only [fX11_guestFor_43, fX11_guestFor_50, fX11_guestFor_52, fX11_guestFor_55, fX11_guestFor_59, kS_999, lt_eq, show ¬ 999 < a by omega, ↓reduceIte, mo_isO, Option.bind_some, c_nameAt hN hN8, hy, oi_some]
set_option maxRecDepth 100000 in
set_option maxHeartbeats 400000 in
theorem l_guestN {k a f : Nat} (ha : 999 < a) (ha2 : a < 30000) : lX11_guestFor_43 (f + 1) 167 (nI k) (nI a) (hp S J T) = some (oi none, hp S J T) := by
  unfold lX11_guestFor_43
  have h : nI 999 < nI a := (nI_ltI (by omega) (by omega)).mpr ha
  simp (disch := omega) only [fX11_guestFor_43, fX11_guestFor_67, kS_999, h, ↓reduceIte, kB_o]
set_option maxRecDepth 100000 in
set_option maxHeartbeats 400000 in
theorem q_guestFor (h : Rl S T) (p : Int32) : bth (fun h => gX10_guestFor 0 p h) (fun h => gX11_guestFor 167 p h) S J T := by
  obtain ⟨ht, P, N, F, U, E, hB⟩ := Rl_bas h
  obtain ⟨b1, b2, b3, b4, b5, b6, b7, b8, b9, b10⟩ := id hB
  have hanew : ∀ S1 : Mem, gX11_anew 167 (hp S1 J T) = some (hp (stR S1 167 (nw S1)) J T) := fun S1 => c_anew
  have hip : ∀ S1, fr S S1 CL → gX11_isName 167 p (hp (stR S1 167 (nw S1)) J T) = some (bI (okB' p N), hp (stR S1 167 (nw S1)) J T) := fun S1 hf => m_isN (S1 := stR S1 167 (nw S1)) (J := J) (p := p) hB (by rw [stR_eq, nw14, hf 167 (by decide)]) (by rw [stR_ne (by omega)]; exact hf 170 (by decide))
  cases hok : okB' p N with
  | false =>
    rw [hok] at hip
    refine bth_q h (v := m1) (tr := nI 1) (cq_no ?_) (fun S1 hf => mq_no (X := up (nw S1) 11 (nI 1)) ?_ up_eq (nw_p S1 _)) n1_4
    · simp (disch := omega) only [gX10_guestFor, fX10_guestFor_0, fX10_guestFor_2, fX10_guestFor_5, fX10_guestFor_8, fX10_guestFor_10, fX10_guestFor_13, fX10_guestFor_14, fX10_guestFor_25, fX10_guestFor_28, fX10_guestFor_31, fX10_guestFor_43, fX10_guestFor_45, fX10_guestFor_48, lt_isO, kI_1, lt_f9, tl_f11 b1, tl_r11 b1, kB_o, Option.bind_some, n35, n9, n19, n51, n59, nI_add, ix2, ix8, ix22, ix5, ↓reduceIte, c_lacksName b1 b4, hok, Bool.not_false, bI_t, n1_0, c_refuse]
    · simp (disch := omega) only [gX11_guestFor, fX11_guestFor_0, fX11_guestFor_1, fX11_guestFor_4, fX11_guestFor_6, fX11_guestFor_9, fX11_guestFor_12, fX11_guestFor_14, fX11_guestFor_17, fX11_guestFor_18, fX11_guestFor_19, fX11_guestFor_22, fX11_guestFor_27, fX11_guestFor_29, fX11_guestFor_32, fX11_guestFor_36, fX11_guestFor_39, fX11_guestFor_43, fX11_guestFor_50, fX11_guestFor_52, fX11_guestFor_55, fX11_guestFor_59, fX11_guestFor_61, fX11_guestFor_67, mo_isO, kI_1, kB_o, kS_999, Option.bind_some, n35, n9, n19, n51, n59, nI_add, ix2, ix8, ix22, ix5, ↓reduceIte, hanew, hip S1 hf, bI_f, n0_0, c_no, stR_stR, stR_eq]
  | true =>
    rw [hok] at hip
    obtain rfl := ok_yesN hB hok
    obtain ⟨k, hk, rfl⟩ := okB_t (by omega) hok
    have hy := b9 rfl
    obtain ⟨y1, y2, y3, y4, y5, y6, y7, y8⟩ := id hy
    have hf0 : ∀ j, j < N → S 170 (19 + 2 * j) = nI (cN2 (S 170 (19 + 2 * j))) ∧ cN2 (S 170 (19 + 2 * j)) ≤ 200 := fun j hj => sm_cN (y1.2.2.2.2.2.2.2.2.2.1 j hj) (by omega)
    generalize hfe : (fun j => cN2 (S 170 (19 + 2 * j))) = ff
    have hf1 : ∀ j, j < N → S 170 (19 + 2 * j) = nI (ff j) ∧ ff j ≤ 200 := fun j hj => by rw [← hfe]; exact hf0 j hj
    have hdis : ∀ j, j < N → j ≠ k → ff j ≠ ff k := by
      intro j hj hne z
      have hx := y1.2.2.2.2.2.2.2.2.2.2.1
      rcases Nat.lt_or_gt_of_ne hne with q | q
      · exact hx j k q hk (by rw [(hf1 j hj).1, (hf1 k hk).1, z])
      · exact hx k j q hj (by rw [(hf1 j hj).1, (hf1 k hk).1, z])
    have hkk := hf1 k hk
    have hfrom : S (T 0) (19 + 2 * k) = nI (ff k) := by rw [y2.2.2.1 k hk]; exact hkk.1
    have hgc := ag_gs y2 y5
    -- how hungry the namer is
    have hgs : gs (S 170) (S 174) P = m1 ∨ ∃ s, s < 20000 ∧ gs (S 170) (S 174) P = nI s := by
      unfold gs
      cases e : wn (S 170) (S 174) P false with
      | none => exact Or.inl rfl
      | some p =>
        have hpP := wn_lt p e
        refine Or.inr (se_sm (sm_le (y6.2.2.1 p hpP) (by omega)) ?_)
        obtain ⟨a, ha, ea⟩ := y6.1 p hpP
        obtain ⟨b, hb, eb⟩ := y1.1.2.2.2.2.2.2.1 p hpP
        exact ⟨a + b, by omega, by rw [ea, eb, nI_add]⟩
    refine bth_q h (v := if gs (S 170) (S 174) P < nI (ff k) then nI (ff k) else oi none) (tr := nI 0) (cq_no ?_) (fun S1 hf => ?_) n0_4
    · have cg : gX10_greatestSeen 0 (hp S J T) = some (gs (S 170) (S 174) P, hp S J T) := by rw [c_greatestSeen b1 b3 b5, hgc]
      by_cases hc : gs (S 170) (S 174) P < nI (ff k)
      · rw [if_pos hc]
        simp (disch := omega) only [gX10_guestFor, fX10_guestFor_0, fX10_guestFor_2, fX10_guestFor_5, fX10_guestFor_8, fX10_guestFor_10, fX10_guestFor_13, fX10_guestFor_14, fX10_guestFor_25, fX10_guestFor_28, fX10_guestFor_31, fX10_guestFor_43, fX10_guestFor_45, fX10_guestFor_48, lt_isO, kI_1, lt_f9, tl_f11 b1, tl_r11 b1, kB_o, Option.bind_some, n35, n9, n19, n51, n59, nI_add, ix2, ix8, ix22, ix5, ↓reduceIte, c_lacksName b1 b4, hok, Bool.not_true, bI_f, n0_0, cg, hfrom, hc, c_answer]
      · rw [if_neg hc]
        simp (disch := omega) only [gX10_guestFor, fX10_guestFor_0, fX10_guestFor_2, fX10_guestFor_5, fX10_guestFor_8, fX10_guestFor_10, fX10_guestFor_13, fX10_guestFor_14, fX10_guestFor_25, fX10_guestFor_28, fX10_guestFor_31, fX10_guestFor_43, fX10_guestFor_45, fX10_guestFor_48, lt_isO, kI_1, lt_f9, tl_f11 b1, tl_r11 b1, kB_o, Option.bind_some, n35, n9, n19, n51, n59, nI_add, ix2, ix8, ix22, ix5, ↓reduceIte, c_lacksName b1 b4, hok, Bool.not_true, bI_f, n0_0, cg, hfrom, hc, c_answer]
    · have e170 : S1 170 = S 170 := hf 170 (by decide)
      have e174 : S1 174 = S 174 := hf 174 (by decide)
      have hs := c_seenMost (S := stR S1 167 (nw S1)) (J := J) (T := T) (P := P) (by rw [stR_ne (by omega), e170]; exact y1.1.1) b5
      rw [stR_ne (show 170 ≠ 167 by omega), stR_ne (show 174 ≠ 167 by omega), stR_ne (show 175 ≠ 167 by omega), e170, e174, ag_gs (agT_rf _ P N F) (agR_cp b5 b6 (agR_rf (S 174) P N))] at hs
      generalize hM : stR (stR S1 167 (nw S1)) 175 (grR (S 170) (cpR (S 174) (S1 175) 22) P) = M at hs
      have m170 : M 170 = S 170 := by rw [← hM, stR_ne (by omega), stR_ne (by omega), e170]
      have hN4 : M 170 4 = nI N := by rw [m170]; exact y1.1.2.2.1
      have hN4' : S 170 4 = nI N := y1.1.2.2.1
      have hfu : FU = 39000 + 1000 := FU_eq
      refine ⟨M, ?_, by rw [← hM]; exact fr_st (fr_st (fr_rf S1 _) (by decide)) (by decide), by rw [← hM, stR_ne (by omega), stR_eq]; exact up_eq, fun j hj => by rw [← hM, stR_ne (by omega), stR_eq]; exact nw_q S1 j hj⟩
      have low : ∀ a, a ≤ ff k → lX11_guestFor_43 FU 167 (nI k) (nI a) (hp M J T) = some (nI (ff k), hp M J T) := by
        intro a ha
        have hs1 := l_guestS (S := M) (J := J) (T := T) (N := N) (k := k) m170 hN4' b6 (by omega) (ff k - a) a (39000 + 1000 - (ff k - a)) (by omega) (fun h h1 h2 z => by have := (nmN hf1 (by omega) z).1; omega)
        rw [show 39000 + 1000 - (ff k - a) + (ff k - a) = 39000 + 1000 by omega, show a + (ff k - a) = ff k by omega] at hs1
        rw [hfu, hs1, show 39000 + 1000 - (ff k - a) = (39000 + 999 - (ff k - a)) + 1 by omega]
        exact l_guestY m170 hN4' b6 (by omega) (nmY hf1 hk hdis)
      rcases hgs with hg | ⟨s, hs2, hg⟩
      · rw [hg] at hs ⊢
        have hlt : m1 < nI (ff k) := by
          have h0 : m1 < (0 : Int32) := by decide
          rcases Nat.eq_zero_or_pos (ff k) with z | z
          · rw [z]; exact h0
          · exact Int32.lt_trans h0 ((nI_ltI (a := 0) (by omega) (by omega)).mpr z)
        rw [if_pos hlt]
        have h10 : m1 + nI 1 = nI 0 := by decide
        simp (disch := omega) only [gX11_guestFor, fX11_guestFor_0, fX11_guestFor_1, fX11_guestFor_4, fX11_guestFor_6, fX11_guestFor_9, fX11_guestFor_18, fX11_guestFor_19, fX11_guestFor_22, fX11_guestFor_39, mo_isO, Option.bind_some, hanew, hip S1 hf, bI_t, n1_0, ↓reduceIte, hs, mn_lt, kI_1, h10]
        exact low 0 (by omega)
      · rw [hg] at hs ⊢
        have hs0 : (nI s < 0) = False := eq_false (nI_pos (by omega))
        by_cases hc : s < ff k
        · rw [if_pos ((nI_ltI (by omega) (by omega)).mpr hc)]
          have hne : (oi (nm (S 170) N (nI s)) = nI k) = False := by
            refine eq_false (fun z => ?_)
            cases e : nm (S 170) N (nI s) with
            | none => rw [e, on_nI (by omega)] at z; exact z.elim
            | some j =>
              have hjN := nm_lt j e
              rw [e, oi_some, eq_eq (by omega) (by omega)] at z
              rw [z] at e
              have := (nmN hf1 (by omega) e).1
              omega
          simp (disch := omega) only [gX11_guestFor, fX11_guestFor_0, fX11_guestFor_1, fX11_guestFor_4, fX11_guestFor_6, fX11_guestFor_9, fX11_guestFor_18, fX11_guestFor_19, fX11_guestFor_22, fX11_guestFor_27, fX11_guestFor_29, fX11_guestFor_32, fX11_guestFor_39, mo_isO, Option.bind_some, hanew, hip S1 hf, bI_t, n1_0, ↓reduceIte, hs, hs0, c_nameAt hN4 b6, m170, hne, kI_1, nI_add]
          exact low (s + 1) (by omega)
        · rw [if_neg (fun z => hc ((nI_ltI (by omega) (by omega)).mp z))]
          obtain ⟨j, hj, hjN⟩ := nm_some (r := S 170) (N := N) (hg := nI s) ⟨k, hk, by rw [hkk.1]; exact fun z => hc ((nI_ltI (by omega) (by omega)).mp z)⟩
          obtain ⟨j1, j2⟩ := nmN hf1 (by omega) hj
          by_cases e : j = k
          · subst e
            simp (disch := omega) only [gX11_guestFor, fX11_guestFor_0, fX11_guestFor_1, fX11_guestFor_4, fX11_guestFor_6, fX11_guestFor_9, fX11_guestFor_18, fX11_guestFor_19, fX11_guestFor_22, fX11_guestFor_27, fX11_guestFor_29, fX11_guestFor_32, fX11_guestFor_36, mo_isO, Option.bind_some, hanew, hip S1 hf, bI_t, n1_0, ↓reduceIte, hs, hs0, c_nameAt hN4 b6, m170, hj, oi_some, kB_o]
          · have hjk : (nI j = nI k) = False := by rw [eq_eq (by omega) (by omega)]; exact eq_false e
            have hfj : ff k < ff j := by
              have := j2 k hk (by omega)
              have := hdis j hjN e
              omega
            simp (disch := omega) only [gX11_guestFor, fX11_guestFor_0, fX11_guestFor_1, fX11_guestFor_4, fX11_guestFor_6, fX11_guestFor_9, fX11_guestFor_18, fX11_guestFor_19, fX11_guestFor_22, fX11_guestFor_27, fX11_guestFor_29, fX11_guestFor_32, fX11_guestFor_39, mo_isO, Option.bind_some, hanew, hip S1 hf, bI_t, n1_0, ↓reduceIte, hs, hs0, c_nameAt hN4 b6, m170, hj, oi_some, hjk, kI_1, nI_add]
            have none_ : ∀ a, s + 1 ≤ a → a < 30000 → lX11_guestFor_43 FU 167 (nI k) (nI a) (hp M J T) = some (oi none, hp M J T) := by
              intro a ha ha2
              rw [hfu]
              by_cases hbig : 999 < a
              · exact l_guestN hbig ha2
              · have hs1 := l_guestS (S := M) (J := J) (T := T) (N := N) (k := k) m170 hN4' b6 (by omega) (1000 - a) a (39000 + a) (by omega) (fun h h1 h2 z => by have := (nmN hf1 (by omega) z).2 j hjN (by omega); omega)
                rw [show 39000 + a + (1000 - a) = 39000 + 1000 by omega, show a + (1000 - a) = 1000 by omega] at hs1
                rw [hs1, show 39000 + a = (38999 + a) + 1 by omega]
                exact l_guestN (by omega) (by omega)
            exact none_ (s + 1) (by omega) (by omega)
-- what is told
set_option maxRecDepth 100000 in
set_option maxHeartbeats 400000 in
theorem bth_0 {gc gm : aH → Option (Int32 × aH)} (h : Rl S T) {v : Int32} (hc : gc (hp S J T) = some (v, hp S J T)) (hm : gm (hp S J T) = some (v, hp (stR S 167 (up (S 167) 0 (nI 0))) J T)) : bth gc gm S J T := by
  refine ⟨v, S, _, J, J, T, hc, hm, Rl_q2 h (fr_st (fr_rf S _) (by decide)) (by rw [stR_ne (by omega)]) (by rw [stR_ne (by omega)]) (by rw [stR_eq, up_ne (by omega)]) (fun j hj => by rw [stR_eq, up_ne (pM_ne hj).1])⟩
set_option maxRecDepth 100000 in
set_option maxHeartbeats 400000 in
theorem q_fault (h : Rl S T) : bth (fun h => gX10_fault 0 h) (fun h => gX11_fault 167 h) S J T := by
  have e : S 0 12 = S 167 9 := h.2.2.1.2.1
  refine bth_0 h (v := S 167 9) ?_ ?_
  · simp (disch := omega) only [gX10_fault, fX10_fault_0, lt_g12, Option.bind_some, n35, n9, n19, n51, n59, nI_add, ix2, ix8, ix22, ix5, ↓reduceIte, e]
  · simp (disch := omega) only [gX11_fault, fX11_fault_0, kI_0, mo_p0, mo_g9, Option.bind_some, n35, n9, n19, n51, n59, nI_add, ix2, ix8, ix22, ix5, ↓reduceIte, stS_R, stR_eq, up_ne]
set_option maxRecDepth 100000 in
set_option maxHeartbeats 400000 in
theorem q_trouble (h : Rl S T) : bth (fun h => gX10_trouble 0 h) (fun h => gX11_trouble 167 h) S J T := by
  have e : S 0 11 = S 167 11 := h.2.2.1.1
  refine bth_0 h (v := S 167 11) ?_ ?_
  · simp (disch := omega) only [gX10_trouble, fX10_trouble_0, lt_g11, Option.bind_some, n35, n9, n19, n51, n59, nI_add, ix2, ix8, ix22, ix5, ↓reduceIte, e]
  · simp (disch := omega) only [gX11_trouble, fX11_trouble_0, kI_0, mo_p0, mo_g11, Option.bind_some, n35, n9, n19, n51, n59, nI_add, ix2, ix8, ix22, ix5, ↓reduceIte, stS_R, stR_eq, up_ne]
set_option maxRecDepth 100000 in
set_option maxHeartbeats 400000 in
theorem q_where (h : Rl S T) : bth (fun h => gX10_where 0 h) (fun h => gX11_where 167 h) S J T := by
  have e : S 0 11 = S 167 11 := h.2.2.1.1
  have e2 := h.2.2.1.2.2
  by_cases h4 : S 167 11 = nI 4
  · have e3 := e2 h4
    refine bth_0 h (v := S 167 10) ?_ ?_
    · simp (disch := omega) only [gX10_where, fX10_where_0, fX10_where_8, fX10_where_18, fX10_where_19, lt_g11, kI_4, lt_f0, rd_g2, kI_n, Option.bind_some, n35, n9, n19, n51, n59, nI_add, ix2, ix8, ix22, ix5, ↓reduceIte, e, h4, e3]
    · simp (disch := omega) only [gX11_where, fX11_where_0, fX11_where_13, fX11_where_20, fX11_where_21, kI_0, mo_p0, mo_g11, kI_4, mo_g10, kI_n, Option.bind_some, n35, n9, n19, n51, n59, nI_add, ix2, ix8, ix22, ix5, ↓reduceIte, stS_R, stR_eq, up_ne, h4]
  · refine bth_0 h (v := m1) ?_ ?_
    · simp (disch := omega) only [gX10_where, fX10_where_0, fX10_where_8, fX10_where_18, fX10_where_19, lt_g11, kI_4, lt_f0, rd_g2, kI_n, Option.bind_some, n35, n9, n19, n51, n59, nI_add, ix2, ix8, ix22, ix5, ↓reduceIte, e, h4]
    · simp (disch := omega) only [gX11_where, fX11_where_0, fX11_where_13, fX11_where_20, fX11_where_21, kI_0, mo_p0, mo_g11, kI_4, mo_g10, kI_n, Option.bind_some, n35, n9, n19, n51, n59, nI_add, ix2, ix8, ix22, ix5, ↓reduceIte, stS_R, stR_eq, up_ne, h4]
end Q9

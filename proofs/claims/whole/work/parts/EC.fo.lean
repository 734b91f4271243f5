-- WHO SHOULD FAST: the reference
set_option maxRecDepth 100000 in
set_option maxHeartbeats 400000 in
theorem lt15 {a b : Nat} (ha : a ≤ 32768) (hb : b ≤ 32768) : (nI a < nI b) = (a < b) := propext (by
  rw [Int32.lt_iff_toInt_lt]
  show (Int32.ofNat a).toInt < (Int32.ofNat b).toInt ↔ _
  rw [Int32.toInt_ofNat_of_lt (Nat.lt_of_le_of_lt ha (by decide)), Int32.toInt_ofNat_of_lt (Nat.lt_of_le_of_lt hb (by decide))]
  omega)
set_option maxRecDepth 100000 in
set_option maxHeartbeats 400000 in
theorem nl15 {a : Nat} (ha : a ≤ 32768) : ¬ nI a < 0 := fun z => by
  have := (lt15 ha (show 0 ≤ 32768 by omega)).mp z
  omega
set_option maxRecDepth 100000 in
set_option maxHeartbeats 400000 in
theorem on_lt0 : oi none < 0 := by decide
section FO
variable {S : Mem} {J : MeJ} {T : Nat → Nat} {t P N F U E K n : Nat}
set_option maxRecDepth 100000 in
set_option maxHeartbeats 400000 in
theorem l_fd {r R : Row} (hT : TbS r P N) (hF : r 5 = nI F) (hF8 : F ≤ 8) (hI : Inv R P N 999) (hn : n ≤ 3) {s : Nat} (hs : s < 32768) {v1 v3 : Int32} (K6 : Nat → Int32 → Int32 → Int32 → Int32 → aH → Option (Int32 × aH)) : ∀ m d g S1, d + m = n → m < g → S1 170 = r → agR (S1 175) (rwS r R P N F s d) P N → (∀ e, d = e + 1 → S1 167 26 = oi (dWt r (rwS r R P N F s e) P N false)) → ∃ S', lX11_fastsOf_52 K6 g 167 v1 (nI n) v3 (nI s) (nI d) (hp S1 J T) = fX11_fastsOf_83 K6 167 v1 (nI n) v3 (nI s) (hp S' J T) ∧ agR (S' 175) (rwS r R P N F s n) P N ∧ (∀ e, n = e + 1 → S' 167 26 = oi (dWt r (rwS r R P N F s e) P N false)) ∧ mfr S1 S' := by
  have hP5 := hT.2.1
  intro m
  induction m with
  | zero =>
    intro d g S1 hd hg h1 h2 h3
    obtain ⟨g, rfl⟩ : ∃ x, g = x + 1 := ⟨g - 1, by omega⟩
    obtain rfl : d = n := by omega
    refine ⟨S1, ?_, h2, h3, fr_rf _ _, fun _ _ _ => rfl⟩
    unfold lX11_fastsOf_52 fX11_fastsOf_52
    rw [if_neg (show ¬ nI d < nI d by rw [lt_eq (by omega) (by omega)]; omega)]
  | succ m ih =>
    intro d g S1 hd hg h1 h2 h3
    obtain ⟨g, rfl⟩ : ∃ x, g = x + 1 := ⟨g - 1, by omega⟩
    obtain ⟨S2, k1, k2, k3, k4, k5⟩ := m_day (S := S1) (J := J) (T := T) (w := 175) (P := P) (N := N) (F := F) (D := 999 + d) (bes := nI (dg s d)) (fl := false) rwA_175 (by omega) (by omega) (by omega) (by omega) (by rw [h1]; exact hT) (by rw [h1]; exact hF) hF8 (Inv_ag h2 (rwS_inv hT hI d (by omega))) (by omega)
    rw [bI_f] at k1
    rw [h1] at k2 k3
    obtain ⟨S3, a1, a2, a3, a4⟩ := ih (d + 1) g S2 (by omega) (by omega) (by rw [k5 170 (by decide)]; exact h1) (by rw [k2]; exact (ag_day (agT_rf r P N F) h2 hP5 _ _ _).1) (fun e he => by
      obtain rfl : d = e := by omega
      rw [k3, up_eq, ag_dWt (agT_rf r P N F) h2])
    refine ⟨S3, ?_, a2, a3, mfr_tr ⟨fr_mo k5 (by decide), fun j z1 z2 => by rw [k3, up_ne z2, up_ne z1]⟩ a4⟩
    rw [← a1]
    have e5 : (nI s >>> ((kI 5 * nI d) &&& 31)) &&& kB 31 = nI (dg s d) := by
      rw [kI_5, ix5, show kB 31 = nI 31 by decide]
      exact sm5_n hs (by omega)
    conv => lhs; unfold lX11_fastsOf_52
    unfold fX11_fastsOf_52
    rw [if_pos (show nI d < nI n by rw [lt_eq (by omega) (by omega)]; omega)]
    unfold fX11_fastsOf_58
    rw [mo_f20, Option.bind_some, e5]
    unfold fX11_fastsOf_74
    rw [mo_isO, Option.bind_some, kI_0, k1, Option.bind_some]
    unfold fX11_fastsOf_77
    rw [kI_1, nI_add]
set_option maxRecDepth 100000 in
set_option maxHeartbeats 400000 in
theorem l_fo {r R : Row} (hT : TbS r P N) (hF : r 5 = nI F) (hF8 : F ≤ 8) (hI : Inv R P N 999) (hn : n ≤ 3) (hn0 : 0 < n) (hK : K < 8) : ∀ m s g S1 B, s + m = w5 n → m < g → S1 170 = r → S1 174 = R → (∀ j, B = some j → j < s) → updG (fun u => Good r R P N F K n u ∧ u < s) none B → ∃ S' B', lX11_fastsOf_6 g 167 (nI K) (nI n) (oi B) (nI s) (hp S1 J T) = some (oi B', hp S' J T) ∧ (∀ j, B' = some j → j < 32768) ∧ updG (Good r R P N F K n) none B' ∧ mfr S1 S' := by
  have hP5 := hT.2.1
  have hN8 : N ≤ 8 := hT.2.2.2.1
  obtain ⟨p1, p2, p3⟩ := w5_p n (by omega)
  have esh : kI 1 <<< ((kI 5 * nI n) &&& 31) = nI (w5 n) := by
    rw [kI_1, kI_5, ix5, nI_shl (by omega), Nat.one_shiftLeft, p1]
  intro m
  induction m with
  | zero =>
    intro s g S1 B hs hg h1 h2 h3 h4
    obtain ⟨g, rfl⟩ : ∃ x, g = x + 1 := ⟨g - 1, by omega⟩
    obtain rfl : s = w5 n := by omega
    refine ⟨S1, B, ?_, fun j hj => by have := h3 j hj; omega, upd_cg (fun u => ⟨fun z => z.1, fun z => ⟨z, z.1⟩⟩) h4, fr_rf _ _, fun _ _ _ => rfl⟩
    unfold lX11_fastsOf_6 fX11_fastsOf_6
    rw [esh, if_neg (show ¬ nI (w5 n) < nI (w5 n) by rw [lt15 p3 p3]; omega)]
    rfl
  | succ m ih =>
    intro s g S1 B hs hg h1 h2 h3 h4
    obtain ⟨g, rfl⟩ : ∃ x, g = x + 1 := ⟨g - 1, by omega⟩
    have hs3 : s < 32768 := by omega
    have hps := pc_le s
    suffices hone : ∃ S2 B2, fX11_fastsOf_16 (lX11_fastsOf_6 g) 167 (nI K) (nI n) (oi B) (nI s) (hp S1 J T) = lX11_fastsOf_6 g 167 (nI K) (nI n) (oi B2) (nI (s + 1)) (hp S2 J T) ∧ (∀ j, B2 = some j → j < s + 1) ∧ updG (fun u => Good r R P N F K n u ∧ u = s) B B2 ∧ mfr S1 S2 by
      obtain ⟨S2, B2, a1, a2, a3, a4⟩ := hone
      obtain ⟨S3, B3, c1, c2, c3, c4⟩ := ih (s + 1) g S2 B2 (by omega) (by omega) (by rw [a4.1 170 (by decide)]; exact h1) (by rw [a4.1 174 (by decide)]; exact h2) a2 (upd_cg (fun u => ⟨fun z => z.elim (fun y => ⟨y.1, by omega⟩) (fun y => ⟨y.1, by omega⟩), fun z => by
        by_cases y : u = s
        · exact Or.inr ⟨z.1, y⟩
        · exact Or.inl ⟨z.1, by omega⟩⟩) (upd_tr h4 a3))
      refine ⟨S3, B3, ?_, c2, c3, mfr_tr a4 c4⟩
      rw [← c1, ← a1]
      conv => lhs; unfold lX11_fastsOf_6
      unfold fX11_fastsOf_6
      rw [esh, if_pos (show nI s < nI (w5 n) by rw [lt15 (by omega) p3]; omega)]
    have hskip : ∀ S2, fX11_fastsOf_111 (lX11_fastsOf_6 g) 167 (nI K) (nI n) (oi B) (nI s) (hp S2 J T) = lX11_fastsOf_6 g 167 (nI K) (nI n) (oi B) (nI (s + 1)) (hp S2 J T) := fun S2 => by
      unfold fX11_fastsOf_111
      rw [kI_1, nI_add]
    have h32 : btO s B → ∃ S2 B2, fX11_fastsOf_32 (lX11_fastsOf_6 g) 167 (nI K) (nI n) (oi B) (nI s) (hp S1 J T) = lX11_fastsOf_6 g 167 (nI K) (nI n) (oi B2) (nI (s + 1)) (hp S2 J T) ∧ (∀ j, B2 = some j → j < s + 1) ∧ updG (fun u => Good r R P N F K n u ∧ u = s) B B2 ∧ mfr S1 S2 := by
      intro hbt
      have hkeep : ∀ S2, mfr S1 S2 → ¬ Good r R P N F K n s → ∃ S2' B2, lX11_fastsOf_6 g 167 (nI K) (nI n) (oi B) (nI (s + 1)) (hp S2 J T) = lX11_fastsOf_6 g 167 (nI K) (nI n) (oi B2) (nI (s + 1)) (hp S2' J T) ∧ (∀ j, B2 = some j → j < s + 1) ∧ updG (fun u => Good r R P N F K n u ∧ u = s) B B2 ∧ mfr S1 S2' := fun S2 hm hng => ⟨S2, B, rfl, fun j hj => by have := h3 j hj; omega, upd_no (fun u hu => hng (by rw [← hu.2]; exact hu.1)), hm⟩
      unfold fX11_fastsOf_32 fX11_fastsOf_36
      rw [mo_isO, Option.bind_some, c_mayF h1 h2 hF hF8 hn, Option.bind_some]
      unfold fX11_fastsOf_39
      cases hmf : mfB r R F (nI s) n with
      | false =>
        rw [if_pos (show bI false = 0 by decide)]
        unfold fX11_fastsOf_42
        rw [hskip]
        exact hkeep S1 ⟨fr_rf _ _, fun _ _ _ => rfl⟩ (fun z => by rw [z.2.1] at hmf; cases hmf)
      | true =>
        rw [if_neg (show ¬ bI true = 0 by decide)]
        have hbg := c_begin (S := S1) (J := J) (T := T)
        rw [h2] at hbg
        have hR : agR (cpR R (S1 175) 22) R P N := agR_cp hP5 hN8 (agR_rf _ _ _)
        obtain ⟨S2, a1, a2, a3, a4⟩ := l_fd (J := J) (T := T) (n := n) (s := s) hT hF hF8 hI hn hs3 (v1 := nI K) (v3 := oi B) (lX11_fastsOf_6 g) n 0 FU (stR S1 175 (cpR R (S1 175) 22)) (by omega) (FU_lt (by omega)) (by rw [stR_ne (by omega)]; exact h1) (by rw [stR_eq]; exact hR) (fun e he => by omega)
        have hm : mfr S1 S2 := mfr_tr ⟨fr_st (fr_rf S1 _) (by decide), fun j _ _ => by rw [stR_ne (by omega)]⟩ a4
        unfold fX11_fastsOf_45 fX11_fastsOf_46
        rw [mo_isO, Option.bind_some, hbg, Option.bind_some]
        unfold fX11_fastsOf_49
        rw [kI_0, a1]
        unfold fX11_fastsOf_83
        have e26 := a3 (n - 1) (by omega)
        rw [mo_g26, Option.bind_some, e26]
        have hoi := oi_eq (x := dWt r (rwS r R P N F s (n - 1)) P N false) (fun k hk => by have := dWt_lt k hk; omega) (j := K) (by omega)
        by_cases hd : dWt r (rwS r R P N F s (n - 1)) P N false = some K
        · rw [if_pos (hoi.mpr hd)]
          unfold fX11_fastsOf_91
          have e10 : S2 175 10 = rwS r R P N F s n 10 := a2.2.1 10 (by omega) (by omega)
          have f10 : S2 174 10 = R 10 := by rw [hm.1 174 (by decide), h2]
          rw [mo_f20, Option.bind_some, kB_10, rw_r rwA_175 (by omega), Option.bind_some, mo_f19, Option.bind_some, rw_r rwA_174 (by omega), Option.bind_some, e10, f10]
          by_cases hk : rwS r R P N F s n 10 = R 10
          · rw [if_pos hk]
            unfold fX11_fastsOf_108 fX11_fastsOf_111
            rw [kI_1, nI_add]
            exact ⟨S2, some s, rfl, fun j hj => by cases hj; omega, Or.inr ⟨s, rfl, ⟨⟨by omega, hmf, hd, hk⟩, rfl⟩, hbt, fun u hu => by rw [hu.2]; omega⟩, hm⟩
          · rw [if_neg hk, hskip]
            exact hkeep S2 hm (fun z => hk z.2.2.2)
        · rw [if_neg (fun z => hd (hoi.mp z)), hskip]
          exact hkeep S2 hm (fun z => hd z.2.2.1)
    unfold fX11_fastsOf_16
    cases B with
    | none =>
      rw [if_pos on_lt0]
      exact h32 trivial
    | some j =>
      have hj := h3 j rfl
      have hpj := pc_le j
      rw [oi_some, if_neg (nl15 (by omega))]
      unfold fX11_fastsOf_20 fX11_fastsOf_22
      rw [c_ones, Option.bind_some]
      unfold fX11_fastsOf_25 fX11_fastsOf_26
      rw [c_ones, Option.bind_some]
      unfold fX11_fastsOf_29
      by_cases hpp : pc s < pc j
      · rw [if_pos (show nI (pc s) < nI (pc j) by rw [lt_eq (by omega) (by omega)]; exact hpp)]
        exact h32 (by show key s < key j; unfold key; omega)
      · rw [if_neg (show ¬ nI (pc s) < nI (pc j) by rw [lt_eq (by omega) (by omega)]; exact hpp)]
        refine ⟨S1, some j, hskip S1, fun i hi => by cases hi; omega, Or.inl ⟨rfl, fun u hu => ?_⟩, fr_rf _ _, fun _ _ _ => rfl⟩
        rw [hu.2]
        show ¬ key s < key j
        unfold key
        omega
set_option maxRecDepth 100000 in
set_option maxHeartbeats 400000 in
theorem c_fastsOf {r R : Row} (hT : TbS r P N) (hF : r 5 = nI F) (hF8 : F ≤ 8) (hI : Inv R P N 999) (hn : n ≤ 3) (hn0 : 0 < n) (hK : K < 8) (h1 : S 170 = r) (h2 : S 174 = R) : ∃ S' B', gX11_fastsOf 167 (nI K) (nI n) (hp S J T) = some (oi B', hp S' J T) ∧ (∀ j, B' = some j → j < 32768) ∧ updG (Good r R P N F K n) none B' ∧ mfr S S' := by
  obtain ⟨p1, p2, p3⟩ := w5_p n (by omega)
  obtain ⟨S', B', a1, a2, a3, a4⟩ := l_fo (J := J) (T := T) (K := K) (n := n) hT hF hF8 hI hn hn0 hK (w5 n) 0 FU S none (by omega) (FU_lt (by omega)) h1 h2 (fun j hj => by cases hj) (upd_no (fun u hu => by omega))
  refine ⟨S', B', ?_, a2, a3, a4⟩
  unfold gX11_fastsOf fX11_fastsOf_0
  rw [kB_o, kI_0]
  exact a1
set_option maxRecDepth 100000 in
set_option maxHeartbeats 400000 in
theorem c_found {B : Option Nat} (h : fSt (S 17) B) : gX2_isFound 17 (hp S J T) = some (bI B.isSome, hp S J T) := by
  cases B with
  | none =>
    have h0 := h.1
    simp (disch := omega) only [gX2_isFound, fX2_isFound_0, fX2_isFound_10, fX2_isFound_14, fX2_isFound_15, se_g0, kS_1000, kI_1, kI_0, Option.bind_some, n35, n9, n19, n51, n59, nI_add, ix2, ix8, ix22, ix5, ↓reduceIte, h0, lt_eq, Nat.lt_irrefl, Option.isSome, bI_f, n0_0, true_or, z0_z]
  | some j =>
    have h0 := h.1
    have := pc_le j
    simp (disch := omega) only [gX2_isFound, fX2_isFound_0, fX2_isFound_10, fX2_isFound_14, fX2_isFound_15, se_g0, kS_1000, kI_1, kI_0, Option.bind_some, n35, n9, n19, n51, n59, nI_add, ix2, ix8, ix22, ix5, ↓reduceIte, h0, lt_eq, show pc j < 1000 by omega, Option.isSome, bI_t, n1_0, n11, false_or, z1_z]
end FO

-- TWO TABLES: the questions
section Q17
variable {S S1 : Mem} {J : MeJ} {T : Nat → Nat} {t a w P N F U E D : Nat} {ht : Bool}
-- what both need of a table that stands
set_option maxRecDepth 100000 in
set_option maxHeartbeats 400000 in
theorem y_tab (hy : Yes S t P N F U E) : ∃ l f k0, l < 32 ∧ f ≤ l ∧ nI l &&& -nI l = nI f ∧ ((nI 1 <<< (nI P &&& 31)) - nI 1) &&& (S 174 10 ^^^ m1) = nI l ∧ (∀ k, k < P → bt (nI l) k = true → lv (S 174) k = true) ∧ (∀ k, k < P → ∃ n, n < 20000 ∧ sh (S 170) (S 174) k = nI n) ∧ tB (S 170) (S 174) P N l f = some k0 ∧ (l ≠ 0 → tB (S 170) (S 174) P N l 1 = some k0) ∧ k0 ≤ l ∧ nI l &&& nI k0 = nI k0 := by
  obtain ⟨y1, y2, y3, y4, y5, y6, y7, y8⟩ := hy
  have hP5 := y1.1.2.1
  obtain ⟨d, hd, ed⟩ := y6.2.2.2.2.2.1
  obtain ⟨l, hl, el, hb⟩ := lv_n P (by omega) d (by omega)
  obtain ⟨k0, hk0, hk1, hk2⟩ := tB_yes (r := S 170) (R := S 174) (P := P) (N := N) hl
  have hk3 : nI l &&& nI k0 = nI k0 := my_2 l hl k0 (by omega) (by unfold my at hk2; rw [Bool.and_eq_true] at hk2; exact of_decide_eq_true hk2.1)
  have hlv : ∀ k, k < P → bt (nI l) k = true → lv (S 174) k = true := fun k hk z => by
    unfold lv
    rw [ed, hb k (by omega) z]
    rfl
  have hs : ∀ k, k < P → ∃ n, n < 20000 ∧ sh (S 170) (S 174) k = nI n := fun p hpP => by
    refine se_sm (sm_le (y6.2.2.1 p hpP) (by omega)) ?_
    obtain ⟨a, ha, ea⟩ := y6.1 p hpP
    obtain ⟨b, hb, eb⟩ := y1.1.2.2.2.2.2.2.1 p hpP
    exact ⟨a + b, by omega, by rw [ea, eb, nI_add]⟩
  by_cases h0 : l = 0
  · subst h0
    exact ⟨0, 0, k0, by omega, by omega, by decide, by rw [ed]; exact el, hlv, hs, hk0, fun z => absurd rfl z, hk1, hk3⟩
  · obtain ⟨f, f1, f2, f3, f4⟩ := my_1 l hl (by omega)
    have hsk := tB_skip (r := S 170) (R := S 174) (P := P) (N := N) (my_4 l hl f f1 f4) f3
    refine ⟨l, f, k0, hl, f3, f4, by rw [ed]; exact el, hlv, hs, by rw [← hsk f 0 (by omega)]; exact hk0, fun _ => ?_, hk1, hk3⟩
    rw [hsk (f - 1) 1 (by omega), ← hsk f 0 (by omega)]
    exact hk0
set_option maxRecDepth 100000 in
set_option maxHeartbeats 400000 in
theorem n_m1 (n : Nat) (hn : n < 20000) : m1 < nI n := by
  have h0 : m1 < (0 : Int32) := by decide
  rcases Nat.eq_zero_or_pos n with z | z
  · rw [z]; exact h0
  · exact Int32.lt_trans h0 ((nI_ltI (a := 0) (by omega) (by omega)).mpr z)
set_option maxRecDepth 100000 in
set_option maxHeartbeats 400000 in
theorem q_tables (h : Rl S T) : bth (fun h => gX10_tables 0 h) (fun h => gX11_tables 167 h) S J T := by
  obtain ⟨ht, P, N, F, U, E, hB⟩ := Rl_bas h
  obtain ⟨b1, b2, b3, b4, b5, b6, b7, b8, b9, b10⟩ := id hB
  have hanew : ∀ S1 : Mem, gX11_anew 167 (hp S1 J T) = some (hp (stR S1 167 (nw S1)) J T) := fun S1 => c_anew
  cases ht with
  | false =>
    refine bth_q h (v := m1) (tr := nI 1) (cq_no ?_) (fun S1 hf => mq_no (X := up (nw S1) 11 (nI 1)) ?_ up_eq (nw_p S1 _)) n1_4
    · simp (disch := omega) only [gX10_tables, fX10_tables_0, fX10_tables_1, fX10_tables_4, fX10_tables_7, fX10_tables_9, fX10_tables_12, fX10_tables_13, fX10_tables_15, fX10_tables_18, fX10_tables_21, lt_isO, kI_1, Option.bind_some, n35, n9, n19, n51, n59, nI_add, ix2, ix8, ix22, ix5, ↓reduceIte, lt_isO, c_lacksTable b1 b3 b5, b8, Bool.not_false, bI_t, n1_0, c_refuse]
    · have h14 : nw S1 14 = nI 0 := by rw [nw14, hf 167 (by decide)]; exact b7
      simp (disch := omega) only [gX11_tables, fX11_tables_0, fX11_tables_1, fX11_tables_4, fX11_tables_11, fX11_tables_12, fX11_tables_15, fX11_tables_18, fX11_tables_20, fX11_tables_23, mo_isO, mo_g14, kI_1, Option.bind_some, n35, n9, n19, n51, n59, nI_add, ix2, ix8, ix22, ix5, ↓reduceIte, hanew, stR_eq, h14, n0_0, c_no, stR_stR]
  | true =>
    have hlk := c_lack1 (J := J) hB
    have hy := b9 rfl
    obtain ⟨l, f, k0, t1, t2, t3, t4, t5, t6, t7, t8, t9, t10⟩ := y_tab hy
    obtain ⟨y1, y2, y3, y4, y5, y6, y7, y8⟩ := id hy
    have e10 : S 139 10 = S 174 10 := y5.2.1 10 (by omega) (by omega)
    have hs1 : ∀ k, k < P → m1 < sh (S (T 0)) (S 139) k := fun k hk => by
      rw [ag_sh y2 y5 hk]
      obtain ⟨n, hn, en⟩ := t6 k hk
      rw [en]
      exact n_m1 n hn
    have hw : ∀ k, k < N → sm (S 139 (14 + k)) 20 := fun k hk => by rw [y5.2.2 k hk]; exact y6.2.2.2.2.1 k hk
    have cb := c_best (J := J) b1 b3 b5 b4 b6 hs1 hw t1 t2 (by rw [e10]; exact t4) t3
    rw [ag_tB y2 y5, t7, show o0 (some k0) = nI k0 from rfl] at cb
    have cw := c_worthOfTables (J := J) (p := k0) b1 b3 b5 b4 b6 hs1 (by rw [e10]; exact t4) t10
    rw [ag_tW y2 y5] at cw
    refine bth_q h (v := nI k0) (tr := nI 0) (cq_no ?_) (fun S1 hf => ?_) n0_4
    · simp (disch := omega) only [gX10_tables, fX10_tables_0, fX10_tables_1, fX10_tables_4, fX10_tables_7, fX10_tables_9, fX10_tables_12, fX10_tables_13, fX10_tables_15, fX10_tables_18, fX10_tables_21, lt_isO, kI_1, Option.bind_some, n35, n9, n19, n51, n59, nI_add, ix2, ix8, ix22, ix5, ↓reduceIte, lt_isO, hlk, n0_0, cb, cw, c_answer]
    · have h14 : nw S1 14 = nI 1 := by rw [nw14, hf 167 (by decide)]; exact b7
      have e170 : S1 170 = S 170 := hf 170 (by decide)
      have e174 : S1 174 = S 174 := hf 174 (by decide)
      generalize hRe : cpR (S1 174) (S1 175) 22 = R'
      have hR : agR R' (S 174) P N := by rw [← hRe]; exact agR_cp b5 b6 (by rw [e174]; exact agR_rf _ _ _)
      have hrr := agT_rf (S 170) P N F
      have ct := c_tablesOf (S := stR S1 167 (nw S1)) (J := J) (T := T) (r := S 170) (R := R') (P := P) (N := N) (l := l) (by rw [stR_ne (by omega)]; exact e170) (by rw [stR_ne (by omega), stR_ne (by omega)]; exact hRe) y1.1.1 b5 y1.1.2.2.1 b6 y1.1.2.2.2.2.2.2.2 (fun k hk => by rw [ag_sh hrr hR hk]; exact t6 k hk) t1 (by rw [stR_ne (by omega), e174]; exact t4) (fun k hk z => by rw [ag_lv hR]; exact t5 k hk z)
      rw [ag_tB hrr hR, ag_tW hrr hR, stR_eq] at ct
      have ev : (if l = 0 then nI 0 else oi (tB (S 170) (S 174) P N l 1)) = nI k0 := by
        by_cases h0 : l = 0
        · rw [if_pos h0, show k0 = 0 by omega]
        · rw [if_neg h0, t8 h0, oi_some]
      have ew : (if l = 0 then nI 0 else oW (tW (S 170) (S 174) P N l) (nI 0) (tB (S 170) (S 174) P N l 1)) = tW (S 170) (S 174) P N l k0 := by
        by_cases h0 : l = 0
        · have z : k0 = 0 := by omega
          rw [if_pos h0, z, h0]
          unfold tW
          rw [show nI 0 &&& (nI 0 ^^^ m1) = nI 0 by decide, wv_0]
          decide
        · rw [if_neg h0, t8 h0]
          rfl
      rw [ev, ew] at ct
      refine ⟨stR (stR (stR S1 167 (nw S1)) 175 (grR (S 170) R' P)) 167 (up (nw S1) 35 (tW (S 170) (S 174) P N l k0)), ?_, fr_st (fr_st (fr_st (fr_rf S1 _) (by decide)) (by decide)) (by decide), by rw [stR_eq, up_ne (by omega)]; exact up_eq, fun j hj => ?_⟩
      · simp (disch := omega) only [gX11_tables, fX11_tables_0, fX11_tables_1, fX11_tables_4, fX11_tables_11, fX11_tables_12, fX11_tables_15, fX11_tables_18, fX11_tables_20, fX11_tables_23, mo_isO, mo_g14, kI_1, Option.bind_some, n35, n9, n19, n51, n59, nI_add, ix2, ix8, ix22, ix5, ↓reduceIte, hanew, stR_eq, h14, n1_0, ct, up_eq]
      · have : j ≠ 35 := by
          intro z
          subst z
          exact absurd hj (by decide)
        rw [stR_eq, up_ne this]
        exact nw_q S1 j hj
set_option maxRecDepth 100000 in
set_option maxHeartbeats 400000 in
theorem q_tablesWorth (h : Rl S T) : bth (fun h => gX10_tablesWorth 0 h) (fun h => gX11_tablesWorth 167 h) S J T := by
  obtain ⟨ht, P, N, F, U, E, hB⟩ := Rl_bas h
  obtain ⟨b1, b2, b3, b4, b5, b6, b7, b8, b9, b10⟩ := id hB
  have hanew : ∀ S1 : Mem, gX11_anew 167 (hp S1 J T) = some (hp (stR S1 167 (nw S1)) J T) := fun S1 => c_anew
  cases ht with
  | false =>
    refine bth_q h (v := m1) (tr := nI 1) (cq_no ?_) (fun S1 hf => mq_no (X := up (nw S1) 11 (nI 1)) ?_ up_eq (nw_p S1 _)) n1_4
    · simp (disch := omega) only [gX10_tablesWorth, fX10_tablesWorth_0, fX10_tablesWorth_1, fX10_tablesWorth_4, fX10_tablesWorth_7, fX10_tablesWorth_9, fX10_tablesWorth_12, fX10_tablesWorth_13, fX10_tablesWorth_16, fX10_tablesWorth_19, fX10_tablesWorth_22, fX10_tablesWorth_25, lt_isO, kI_1, Option.bind_some, n35, n9, n19, n51, n59, nI_add, ix2, ix8, ix22, ix5, ↓reduceIte, lt_isO, c_lacksTable b1 b3 b5, b8, Bool.not_false, bI_t, n1_0, c_refuse]
    · have h14 : nw S1 14 = nI 0 := by rw [nw14, hf 167 (by decide)]; exact b7
      simp (disch := omega) only [gX11_tablesWorth, fX11_tablesWorth_0, fX11_tablesWorth_1, fX11_tablesWorth_4, fX11_tablesWorth_11, fX11_tablesWorth_13, fX11_tablesWorth_16, fX11_tablesWorth_17, fX11_tablesWorth_18, fX11_tablesWorth_21, mo_isO, mo_g14, kI_1, mo_g35, Option.bind_some, n35, n9, n19, n51, n59, nI_add, ix2, ix8, ix22, ix5, ↓reduceIte, hanew, stR_eq, h14, n0_0, c_no, stR_stR]
  | true =>
    have hlk := c_lack1 (J := J) hB
    have hy := b9 rfl
    obtain ⟨l, f, k0, t1, t2, t3, t4, t5, t6, t7, t8, t9, t10⟩ := y_tab hy
    obtain ⟨y1, y2, y3, y4, y5, y6, y7, y8⟩ := id hy
    have e10 : S 139 10 = S 174 10 := y5.2.1 10 (by omega) (by omega)
    have hs1 : ∀ k, k < P → m1 < sh (S (T 0)) (S 139) k := fun k hk => by
      rw [ag_sh y2 y5 hk]
      obtain ⟨n, hn, en⟩ := t6 k hk
      rw [en]
      exact n_m1 n hn
    have hw : ∀ k, k < N → sm (S 139 (14 + k)) 20 := fun k hk => by rw [y5.2.2 k hk]; exact y6.2.2.2.2.1 k hk
    have cb := c_best (J := J) b1 b3 b5 b4 b6 hs1 hw t1 t2 (by rw [e10]; exact t4) t3
    rw [ag_tB y2 y5, t7, show o0 (some k0) = nI k0 from rfl] at cb
    have cw := c_worthOfTables (J := J) (p := k0) b1 b3 b5 b4 b6 hs1 (by rw [e10]; exact t4) t10
    rw [ag_tW y2 y5] at cw
    refine bth_q h (v := tW (S 170) (S 174) P N l k0) (tr := nI 0) (cq_no ?_) (fun S1 hf => ?_) n0_4
    · simp (disch := omega) only [gX10_tablesWorth, fX10_tablesWorth_0, fX10_tablesWorth_1, fX10_tablesWorth_4, fX10_tablesWorth_7, fX10_tablesWorth_9, fX10_tablesWorth_12, fX10_tablesWorth_13, fX10_tablesWorth_16, fX10_tablesWorth_19, fX10_tablesWorth_22, fX10_tablesWorth_25, lt_isO, kI_1, Option.bind_some, n35, n9, n19, n51, n59, nI_add, ix2, ix8, ix22, ix5, ↓reduceIte, lt_isO, hlk, n0_0, cb, cw, c_answer]
    · have h14 : nw S1 14 = nI 1 := by rw [nw14, hf 167 (by decide)]; exact b7
      have e170 : S1 170 = S 170 := hf 170 (by decide)
      have e174 : S1 174 = S 174 := hf 174 (by decide)
      generalize hRe : cpR (S1 174) (S1 175) 22 = R'
      have hR : agR R' (S 174) P N := by rw [← hRe]; exact agR_cp b5 b6 (by rw [e174]; exact agR_rf _ _ _)
      have hrr := agT_rf (S 170) P N F
      have ct := c_tablesOf (S := stR S1 167 (nw S1)) (J := J) (T := T) (r := S 170) (R := R') (P := P) (N := N) (l := l) (by rw [stR_ne (by omega)]; exact e170) (by rw [stR_ne (by omega), stR_ne (by omega)]; exact hRe) y1.1.1 b5 y1.1.2.2.1 b6 y1.1.2.2.2.2.2.2.2 (fun k hk => by rw [ag_sh hrr hR hk]; exact t6 k hk) t1 (by rw [stR_ne (by omega), e174]; exact t4) (fun k hk z => by rw [ag_lv hR]; exact t5 k hk z)
      rw [ag_tB hrr hR, ag_tW hrr hR, stR_eq] at ct
      have ev : (if l = 0 then nI 0 else oi (tB (S 170) (S 174) P N l 1)) = nI k0 := by
        by_cases h0 : l = 0
        · rw [if_pos h0, show k0 = 0 by omega]
        · rw [if_neg h0, t8 h0, oi_some]
      have ew : (if l = 0 then nI 0 else oW (tW (S 170) (S 174) P N l) (nI 0) (tB (S 170) (S 174) P N l 1)) = tW (S 170) (S 174) P N l k0 := by
        by_cases h0 : l = 0
        · have z : k0 = 0 := by omega
          rw [if_pos h0, z, h0]
          unfold tW
          rw [show nI 0 &&& (nI 0 ^^^ m1) = nI 0 by decide, wv_0]
          decide
        · rw [if_neg h0, t8 h0]
          rfl
      rw [ev, ew] at ct
      refine ⟨stR (stR (stR S1 167 (nw S1)) 175 (grR (S 170) R' P)) 167 (up (nw S1) 35 (tW (S 170) (S 174) P N l k0)), ?_, fr_st (fr_st (fr_st (fr_rf S1 _) (by decide)) (by decide)) (by decide), by rw [stR_eq, up_ne (by omega)]; exact up_eq, fun j hj => ?_⟩
      · simp (disch := omega) only [gX11_tablesWorth, fX11_tablesWorth_0, fX11_tablesWorth_1, fX11_tablesWorth_4, fX11_tablesWorth_11, fX11_tablesWorth_13, fX11_tablesWorth_16, fX11_tablesWorth_17, fX11_tablesWorth_18, fX11_tablesWorth_21, mo_isO, mo_g14, kI_1, mo_g35, Option.bind_some, n35, n9, n19, n51, n59, nI_add, ix2, ix8, ix22, ix5, ↓reduceIte, hanew, stR_eq, h14, n1_0, ct, up_eq]
      · have : j ≠ 35 := by
          intro z
          subst z
          exact absurd hj (by decide)
        rw [stR_eq, up_ne this]
        exact nw_q S1 j hj
end Q17

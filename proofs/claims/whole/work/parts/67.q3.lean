-- QUESTIONS OF THE NEXT DAY
set_option maxRecDepth 100000 in
set_option maxHeartbeats 400000 in
theorem ok_ht {S : Mem} {T : Nat → Nat} {ht : Bool} {P N F U E : Nat} (hB : Bas S T ht P N F U E) (p : Int32) : (ht && okB' p P) = okB' p P := by
  cases ht with
  | true => rfl
  | false => rw [(hB.2.2.2.2.2.2.2.2.2 rfl).1, ok0]; rfl
set_option maxRecDepth 100000 in
set_option maxHeartbeats 400000 in
theorem ok_htN {S : Mem} {T : Nat → Nat} {ht : Bool} {P N F U E : Nat} (hB : Bas S T ht P N F U E) (p : Int32) : (ht && okB' p N) = okB' p N := by
  cases ht with
  | true => rfl
  | false => rw [(hB.2.2.2.2.2.2.2.2.2 rfl).2, ok0]; rfl
set_option maxRecDepth 100000 in
set_option maxHeartbeats 400000 in
theorem ok_yes {S : Mem} {T : Nat → Nat} {ht : Bool} {P N F U E : Nat} (hB : Bas S T ht P N F U E) {p : Int32} (h : okB' p P = true) : ht = true := by
  cases ht with
  | true => rfl
  | false => rw [(hB.2.2.2.2.2.2.2.2.2 rfl).1, ok0] at h; cases h
set_option maxRecDepth 100000 in
set_option maxHeartbeats 400000 in
theorem ok_yesN {S : Mem} {T : Nat → Nat} {ht : Bool} {P N F U E : Nat} (hB : Bas S T ht P N F U E) {p : Int32} (h : okB' p N = true) : ht = true := by
  cases ht with
  | true => rfl
  | false => rw [(hB.2.2.2.2.2.2.2.2.2 rfl).2, ok0] at h; cases h
-- a person, for the reference
set_option maxRecDepth 100000 in
set_option maxHeartbeats 400000 in
theorem m_isP {S S1 : Mem} {J : MeJ} {T : Nat → Nat} {ht : Bool} {P N F U E : Nat} (hB : Bas S T ht P N F U E) (h7 : S1 167 14 = S 167 14) (h0 : S1 170 = S 170) {p : Int32} : gX11_isPerson 167 p (hp S1 J T) = some (bI (okB' p P), hp S1 J T) := by
  rw [c_isPerson (ht := ht) (P := P) (by rw [h7]; exact hB.2.2.2.2.2.2.1) (fun z => by rw [h0]; have := (hB.2.2.2.2.2.2.2.2.1 z).1; exact ⟨this.1.1, this.2.1, this.1.2.1⟩), ok_ht hB]
set_option maxRecDepth 100000 in
set_option maxHeartbeats 400000 in
theorem Lst_pos {r : Row} {N : Nat} (h : Lst r N) : 0 < N := by
  obtain ⟨k, hk, -⟩ := h
  omega
set_option maxRecDepth 100000 in
set_option maxHeartbeats 400000 in
theorem m_isN {S S1 : Mem} {J : MeJ} {T : Nat → Nat} {ht : Bool} {P N F U E : Nat} (hB : Bas S T ht P N F U E) (h7 : S1 167 14 = S 167 14) (h0 : S1 170 = S 170) {p : Int32} : gX11_isName 167 p (hp S1 J T) = some (bI (okB' p N), hp S1 J T) := by
  rw [c_isName (ht := ht) (N := N) (by rw [h7]; exact hB.2.2.2.2.2.2.1) (fun z => by rw [h0]; have := (hB.2.2.2.2.2.2.2.2.1 z).1; exact ⟨this.1.2.2.1, Lst_pos this.1.2.2.2.2.2.2.2, this.1.2.2.2.1⟩), ok_htN hB]
set_option maxRecDepth 100000 in
set_option maxHeartbeats 400000 in
theorem nw14 (S : Mem) : nw S 14 = S 167 14 := by unfold nw; rw [up_ne (by omega), up_ne (by omega)]
section Q3
variable {S S1 : Mem} {J : MeJ} {T : Nat → Nat} {t a w P N F U E : Nat} {ht : Bool}
set_option maxRecDepth 100000 in
set_option maxHeartbeats 400000 in
theorem q_namer (h : Rl S T) : bth (fun h => gX10_namer 0 h) (fun h => gX11_namer 167 h) S J T := by
  obtain ⟨ht, P, N, F, U, E, hB⟩ := Rl_bas h
  obtain ⟨b1, b2, b3, b4, b5, b6, b7, b8, b9, b10⟩ := id hB
  cases ht with
  | false =>
    have hl : gX10_lacksTable 0 (hp S J T) = some (nI 1, hp S J T) := by rw [c_lacksTable b1 b3 b5, b8]; rfl
    refine bth_q h (v := m1) (tr := nI 1) (cq_no ?_) (fun S1 hf => mq_no (X := up (nw S1) 11 (nI 1)) ?_ up_eq (nw_p S1 _)) n1_4
    · simp (disch := omega) only [gX10_namer, fX10_namer_0, fX10_namer_1, fX10_namer_4, fX10_namer_7, fX10_namer_9, fX10_namer_12, fX10_namer_13, fX10_namer_23, fX10_namer_26, fX10_namer_29, lt_isO, kI_1, lt_f8, lt_f9, kI_0, Option.bind_some, n35, n9, n19, n51, n59, nI_add, ix2, ix8, ix22, ix5, ↓reduceIte, hl, n1_0, c_refuse]
    · have h14 : S1 167 14 = nI 0 := by rw [hf 167 (by decide)]; exact b7
      simp (disch := omega) only [gX11_namer, fX11_namer_0, fX11_namer_1, fX11_namer_4, fX11_namer_11, fX11_namer_13, fX11_namer_16, fX11_namer_17, fX11_namer_19, fX11_namer_22, mo_isO, mo_g14, kI_1, mo_g25, Option.bind_some, n35, n9, n19, n51, n59, nI_add, ix2, ix8, ix22, ix5, ↓reduceIte, c_anew, stR_eq, up_ne, h14, n0_0, c_no, stR_stR, nw]
  | true =>
    have hy := b9 rfl
    have cw := c_whoNames (S := S) (J := J) (T := T) (fl := false) plA_139 b1 b3 b5
    rw [bI_f, ag_wn hy.2.1 hy.2.2.2.2.1] at cw
    refine bth_q h (v := oi (wn (S 170) (S 174) P false)) (tr := nI 0) (cq_no ?_) (fun S1 hf => ?_) n0_4
    · simp (disch := omega) only [gX10_namer, fX10_namer_0, fX10_namer_1, fX10_namer_4, fX10_namer_7, fX10_namer_9, fX10_namer_12, fX10_namer_13, fX10_namer_23, fX10_namer_26, fX10_namer_29, lt_isO, kI_1, lt_f8, lt_f9, kI_0, Option.bind_some, n35, n9, n19, n51, n59, nI_add, ix2, ix8, ix22, ix5, ↓reduceIte, c_lack1 hB, n0_0, pl_isO plA_139, cw, c_answer]
    · have h14 : nw S1 14 = nI 1 := by rw [nw14, hf 167 (by decide)]; exact b7
      obtain ⟨S2, k1, k2, k3⟩ := y_days (S := S) (S0 := stR S1 167 (nw S1)) (J := J) (T := T) hy (by rw [stR_ne (by omega)]; exact hf 170 (by decide)) (by rw [stR_ne (by omega)]; exact hf 174 (by decide)) (show 1 ≤ 60 by omega)
      obtain ⟨q1, q2, q3⟩ := mfr_q k3
      refine ⟨S2, ?_, q1, q2, q3⟩
      have hv := (k2.2 0 rfl).1
      have hanew : gX11_anew 167 (hp S1 J T) = some (hp (stR S1 167 (nw S1)) J T) := c_anew
      simp (disch := omega) only [gX11_namer, fX11_namer_0, fX11_namer_1, fX11_namer_4, fX11_namer_11, fX11_namer_13, fX11_namer_16, fX11_namer_17, fX11_namer_19, fX11_namer_22, mo_isO, mo_g14, kI_1, mo_g25, Option.bind_some, n35, n9, n19, n51, n59, nI_add, ix2, ix8, ix22, ix5, ↓reduceIte, hanew, stR_eq, h14, n1_0, k1, hv]
      rfl
set_option maxRecDepth 100000 in
set_option maxHeartbeats 400000 in
theorem q_dish (h : Rl S T) : bth (fun h => gX10_dish 0 h) (fun h => gX11_dish 167 h) S J T := by
  obtain ⟨ht, P, N, F, U, E, hB⟩ := Rl_bas h
  obtain ⟨b1, b2, b3, b4, b5, b6, b7, b8, b9, b10⟩ := id hB
  cases ht with
  | false =>
    have hl : gX10_lacksTable 0 (hp S J T) = some (nI 1, hp S J T) := by rw [c_lacksTable b1 b3 b5, b8]; rfl
    refine bth_q h (v := m1) (tr := nI 1) (cq_no ?_) (fun S1 hf => mq_no (X := up (nw S1) 11 (nI 1)) ?_ up_eq (nw_p S1 _)) n1_4
    · simp (disch := omega) only [gX10_dish, fX10_dish_0, fX10_dish_1, fX10_dish_4, fX10_dish_7, fX10_dish_9, fX10_dish_12, fX10_dish_13, fX10_dish_23, fX10_dish_26, fX10_dish_29, lt_isO, kI_1, lt_f8, lt_f9, kI_0, Option.bind_some, n35, n9, n19, n51, n59, nI_add, ix2, ix8, ix22, ix5, ↓reduceIte, hl, n1_0, c_refuse]
    · have h14 : S1 167 14 = nI 0 := by rw [hf 167 (by decide)]; exact b7
      simp (disch := omega) only [gX11_dish, fX11_dish_0, fX11_dish_1, fX11_dish_4, fX11_dish_11, fX11_dish_13, fX11_dish_16, fX11_dish_17, fX11_dish_19, fX11_dish_22, mo_isO, mo_g14, kI_1, mo_g26, Option.bind_some, n35, n9, n19, n51, n59, nI_add, ix2, ix8, ix22, ix5, ↓reduceIte, c_anew, stR_eq, up_ne, h14, n0_0, c_no, stR_stR, nw]
  | true =>
    have hy := b9 rfl
    have cw := c_nextDish (S := S) (J := J) (T := T) (fl := false) plA_139 b1 b3 b5 b4 b6
    rw [bI_f, ag_dWt hy.2.1 hy.2.2.2.2.1] at cw
    refine bth_q h (v := oi (dWt (S 170) (S 174) P N false)) (tr := nI 0) (cq_no ?_) (fun S1 hf => ?_) n0_4
    · simp (disch := omega) only [gX10_dish, fX10_dish_0, fX10_dish_1, fX10_dish_4, fX10_dish_7, fX10_dish_9, fX10_dish_12, fX10_dish_13, fX10_dish_23, fX10_dish_26, fX10_dish_29, lt_isO, kI_1, lt_f8, lt_f9, kI_0, Option.bind_some, n35, n9, n19, n51, n59, nI_add, ix2, ix8, ix22, ix5, ↓reduceIte, c_lack1 hB, n0_0, pl_isO plA_139, cw, c_answer]
    · have h14 : nw S1 14 = nI 1 := by rw [nw14, hf 167 (by decide)]; exact b7
      obtain ⟨S2, k1, k2, k3⟩ := y_days (S := S) (S0 := stR S1 167 (nw S1)) (J := J) (T := T) hy (by rw [stR_ne (by omega)]; exact hf 170 (by decide)) (by rw [stR_ne (by omega)]; exact hf 174 (by decide)) (show 1 ≤ 60 by omega)
      obtain ⟨q1, q2, q3⟩ := mfr_q k3
      refine ⟨S2, ?_, q1, q2, q3⟩
      have hv := (k2.2 0 rfl).2.1
      have hanew : gX11_anew 167 (hp S1 J T) = some (hp (stR S1 167 (nw S1)) J T) := c_anew
      simp (disch := omega) only [gX11_dish, fX11_dish_0, fX11_dish_1, fX11_dish_4, fX11_dish_11, fX11_dish_13, fX11_dish_16, fX11_dish_17, fX11_dish_19, fX11_dish_22, mo_isO, mo_g14, kI_1, mo_g26, Option.bind_some, n35, n9, n19, n51, n59, nI_add, ix2, ix8, ix22, ix5, ↓reduceIte, hanew, stR_eq, h14, n1_0, k1, hv]
      rfl
set_option maxRecDepth 100000 in
set_option maxHeartbeats 400000 in
theorem q_share (h : Rl S T) (p : Int32) : bth (fun h => gX10_share 0 p h) (fun h => gX11_share 167 p h) S J T := by
  obtain ⟨ht, P, N, F, U, E, hB⟩ := Rl_bas h
  obtain ⟨b1, b2, b3, b4, b5, b6, b7, b8, b9, b10⟩ := id hB
  cases hok : okB' p P with
  | false =>
    refine bth_q h (v := m1) (tr := nI 1) (cq_no ?_) (fun S1 hf => mq_no (X := up (nw S1) 11 (nI 1)) ?_ up_eq (nw_p S1 _)) n1_4
    · simp (disch := omega) only [gX10_share, fX10_share_0, fX10_share_2, fX10_share_5, fX10_share_8, fX10_share_10, fX10_share_13, fX10_share_14, fX10_share_27, fX10_share_30, fX10_share_40, fX10_share_43, lt_isO, kI_1, lt_f1, lt_f9, lt_f8, co_isO, co_f2, co_r2, Option.bind_some, n35, n9, n19, n51, n59, nI_add, ix2, ix8, ix22, ix5, ↓reduceIte, c_lacksPerson b1 b3, hok, Bool.not_false, bI_t, n1_0, c_refuse]
    · have hanew : gX11_anew 167 (hp S1 J T) = some (hp (stR S1 167 (nw S1)) J T) := c_anew
      have hip := m_isP (S1 := stR S1 167 (nw S1)) (J := J) (p := p) hB (by rw [stR_eq, nw14, hf 167 (by decide)]) (by rw [stR_ne (by omega)]; exact hf 170 (by decide))
      rw [hok] at hip
      simp (disch := omega) only [gX11_share, fX11_share_0, fX11_share_1, fX11_share_4, fX11_share_6, fX11_share_9, fX11_share_12, fX11_share_14, fX11_share_17, fX11_share_18, fX11_share_20, fX11_share_23, mo_isO, kI_1, mo_f27, mo_r27, Option.bind_some, n35, n9, n19, n51, n59, nI_add, ix2, ix8, ix22, ix5, ↓reduceIte, hanew, hip, bI_f, n0_0, c_no, stR_stR, stR_eq]
  | true =>
    obtain rfl := ok_yes hB hok
    obtain ⟨k, hk, rfl⟩ := okB_t (by omega) hok
    have hy := b9 rfl
    refine bth_q h (v := nI (dayE (S 170) (S 174) P N F (nI 0) false (S 170 0) k)) (tr := nI 0) ?_ (fun S1 hf => ?_) n0_4
    · obtain ⟨S', k1, k2, k3⟩ := y_walk (S := S) (S0 := S) (J := J) (T := T) b1 b2 hy rfl rfl (show 1 ≤ 60 by omega)
      have hv : S' 15 k = nI (dayE (S 170) (S 174) P N F (nI 0) false (S 170 0) k) := by
        rw [k2.2.2.1 k hk]
        show nI 0 + nI _ = nI _
        rw [nI_add, Nat.zero_add]
        rfl
      refine ⟨stR S' 0 (up (S' 0) 11 (nI 0)), ?_, fr_st (fr_CL (fr_rf S _) k3) (by decide), by rw [stR_eq, up_eq], by rw [stR_eq, up_ne (by omega), k3 0 (by decide)]⟩
      simp (disch := omega) only [gX10_share, fX10_share_0, fX10_share_2, fX10_share_5, fX10_share_8, fX10_share_10, fX10_share_13, fX10_share_14, fX10_share_27, fX10_share_30, fX10_share_40, fX10_share_43, lt_isO, kI_1, lt_f1, lt_f9, lt_f8, co_isO, co_f2, co_r2, Option.bind_some, n35, n9, n19, n51, n59, nI_add, ix2, ix8, ix22, ix5, ↓reduceIte, c_lacksPerson b1 b3, hok, Bool.not_true, bI_f, n0_0, lt_f1, lt_f8, lt_f9, co_isO, k1, co_f2, co_r2, hv, c_answer]
    · have hip := m_isP (S1 := stR S1 167 (nw S1)) (J := J) (p := nI k) hB (by rw [stR_eq, nw14, hf 167 (by decide)]) (by rw [stR_ne (by omega)]; exact hf 170 (by decide))
      rw [hok] at hip
      obtain ⟨S2, k1, k2, k3⟩ := y_days (S := S) (S0 := stR S1 167 (nw S1)) (J := J) (T := T) hy (by rw [stR_ne (by omega)]; exact hf 170 (by decide)) (by rw [stR_ne (by omega)]; exact hf 174 (by decide)) (show 1 ≤ 60 by omega)
      obtain ⟨q1, q2, q3⟩ := mfr_q k3
      refine ⟨S2, ?_, q1, q2, q3⟩
      have hv := (k2.2 0 rfl).2.2 k (by omega)
      have hanew : gX11_anew 167 (hp S1 J T) = some (hp (stR S1 167 (nw S1)) J T) := c_anew
      simp (disch := omega) only [gX11_share, fX11_share_0, fX11_share_1, fX11_share_4, fX11_share_6, fX11_share_9, fX11_share_12, fX11_share_14, fX11_share_17, fX11_share_18, fX11_share_20, fX11_share_23, mo_isO, kI_1, mo_f27, mo_r27, Option.bind_some, n35, n9, n19, n51, n59, nI_add, ix2, ix8, ix22, ix5, ↓reduceIte, hanew, hip, bI_t, n1_0, k1, hv]
      rfl
-- what a person sees, on the next day
set_option maxRecDepth 100000 in
set_option maxHeartbeats 400000 in
theorem sees (hy : Yes S t P N F U E) {k : Nat} (hk : k < P) : lv (S 139) k = lv (S 174) k ∧ sh (S t) (S 139) k = sh (S 170) (S 174) k := ⟨ag_lv hy.2.2.2.2.1 k, ag_sh hy.2.1 hy.2.2.2.2.1 hk⟩
set_option maxRecDepth 100000 in
set_option maxHeartbeats 400000 in
theorem seesM (hy : Yes S t P N F U E) (B : Row) {k : Nat} (hk : k < P) (hl : lv (S 174) k = true) : se (S 170) (grR (S 170) (cpR (S 174) B 22) P) k (grR (S 170) (cpR (S 174) B 22) P k) = sh (S 170) (S 174) k := by
  have hg : agR (cpR (S 174) B 22) (S 174) P N := agR_cp hy.1.1.2.1 hy.1.1.2.2.2.1 (agR_rf _ _ _)
  rw [sh_gr hy.1.1.2.1 hk (by rw [ag_lv hg]; exact hl)]
  exact ag_sh (agT_rf _ P N F) hg hk
set_option maxRecDepth 100000 in
set_option maxHeartbeats 400000 in
theorem q_seen (h : Rl S T) (p : Int32) : bth (fun h => gX10_seen 0 p h) (fun h => gX11_seen 167 p h) S J T := by
  obtain ⟨ht, P, N, F, U, E, hB⟩ := Rl_bas h
  obtain ⟨b1, b2, b3, b4, b5, b6, b7, b8, b9, b10⟩ := id hB
  cases hok : okB' p P with
  | false =>
    refine bth_q h (v := m1) (tr := nI 1) (cq_no ?_) (fun S1 hf => mq_no (X := up (nw S1) 11 (nI 1)) ?_ up_eq (nw_p S1 _)) n1_4
    · simp (disch := omega) only [gX10_seen, fX10_seen_0, fX10_seen_2, fX10_seen_5, fX10_seen_8, fX10_seen_10, fX10_seen_13, fX10_seen_14, fX10_seen_20, fX10_seen_23, fX10_seen_26, fX10_seen_31, fX10_seen_40, fX10_seen_43, fX10_seen_46, lt_isO, kI_1, lt_f8, kB_o, lt_f9, Option.bind_some, n35, n9, n19, n51, n59, nI_add, ix2, ix8, ix22, ix5, ↓reduceIte, c_lacksPerson b1 b3, hok, Bool.not_false, bI_t, n1_0, c_refuse]
    · have hanew : gX11_anew 167 (hp S1 J T) = some (hp (stR S1 167 (nw S1)) J T) := c_anew
      have hip := m_isP (S1 := stR S1 167 (nw S1)) (J := J) (p := p) hB (by rw [stR_eq, nw14, hf 167 (by decide)]) (by rw [stR_ne (by omega)]; exact hf 170 (by decide))
      rw [hok] at hip
      simp (disch := omega) only [gX11_seen, fX11_seen_0, fX11_seen_1, fX11_seen_4, fX11_seen_6, fX11_seen_9, fX11_seen_12, fX11_seen_14, fX11_seen_17, fX11_seen_18, fX11_seen_19, fX11_seen_22, fX11_seen_28, fX11_seen_31, fX11_seen_34, fX11_seen_46, fX11_seen_49, fX11_seen_52, fX11_seen_54, mo_isO, kI_1, mo_f19, mo_r19, mo_f20, mo_r20, kB_o, Option.bind_some, n35, n9, n19, n51, n59, nI_add, ix2, ix8, ix22, ix5, ↓reduceIte, hanew, hip, bI_f, n0_0, c_no, stR_stR, stR_eq]
  | true =>
    obtain rfl := ok_yes hB hok
    obtain ⟨k, hk, rfl⟩ := okB_t (by omega) hok
    have hy := b9 rfl
    obtain ⟨s1, s2⟩ := sees hy hk
    refine bth_q h (v := if lv (S 174) k then sh (S 170) (S 174) k else oi none) (tr := nI 0) (cq_no ?_) (fun S1 hf => ?_) n0_4
    · cases hl : lv (S 174) k with
      | true =>
        have hd : bt (S 139 10) k = false := by
          have : lv (S 139) k = true := s1.trans hl
          unfold lv at this
          cases e : bt (S 139 10) k
          · rfl
          · rw [e] at this; cases this
        rw [if_pos rfl, ← s2]
        simp (disch := omega) only [gX10_seen, fX10_seen_0, fX10_seen_2, fX10_seen_5, fX10_seen_8, fX10_seen_10, fX10_seen_13, fX10_seen_14, fX10_seen_20, fX10_seen_23, fX10_seen_26, fX10_seen_31, fX10_seen_40, fX10_seen_43, fX10_seen_46, lt_isO, kI_1, lt_f8, kB_o, lt_f9, Option.bind_some, n35, n9, n19, n51, n59, nI_add, ix2, ix8, ix22, ix5, ↓reduceIte, c_lacksPerson b1 b3, hok, Bool.not_true, bI_f, n0_0, pl_isO plA_139, c_isDead plA_139, hd, c_seenHunger plA_139 b1, c_answer]
        rfl
      | false =>
        have hd : bt (S 139 10) k = true := by
          have : lv (S 139) k = false := s1.trans hl
          unfold lv at this
          cases e : bt (S 139 10) k
          · rw [e] at this; cases this
          · rfl
        rw [if_neg (by decide)]
        simp (disch := omega) only [gX10_seen, fX10_seen_0, fX10_seen_2, fX10_seen_5, fX10_seen_8, fX10_seen_10, fX10_seen_13, fX10_seen_14, fX10_seen_20, fX10_seen_23, fX10_seen_26, fX10_seen_31, fX10_seen_40, fX10_seen_43, fX10_seen_46, lt_isO, kI_1, lt_f8, kB_o, lt_f9, Option.bind_some, n35, n9, n19, n51, n59, nI_add, ix2, ix8, ix22, ix5, ↓reduceIte, c_lacksPerson b1 b3, hok, Bool.not_true, bI_f, bI_t, n1_0, n0_0, pl_isO plA_139, c_isDead plA_139, hd, c_answer]
    · have hip := m_isP (S1 := stR S1 167 (nw S1)) (J := J) (p := nI k) hB (by rw [stR_eq, nw14, hf 167 (by decide)]) (by rw [stR_ne (by omega)]; exact hf 170 (by decide))
      rw [hok] at hip
      have e170 : S1 170 = S 170 := hf 170 (by decide)
      have e174 : S1 174 = S 174 := hf 174 (by decide)
      have hd := c_dawn (S := stR S1 167 (nw S1)) (J := J) (T := T) (P := P) (by rw [stR_ne (by omega), e170]; exact hy.1.1.1) b5
      rw [stR_ne (show 170 ≠ 167 by omega), stR_ne (show 174 ≠ 167 by omega), stR_ne (show 175 ≠ 167 by omega), e170, e174] at hd
      have hanew : gX11_anew 167 (hp S1 J T) = some (hp (stR S1 167 (nw S1)) J T) := c_anew
      refine ⟨stR (stR S1 167 (nw S1)) 175 (grR (S 170) (cpR (S 174) (S1 175) 22) P), ?_, fr_st (fr_st (fr_rf S1 _) (by decide)) (by decide), by rw [stR_ne (by omega), stR_eq]; exact up_eq, fun j hj => by rw [stR_ne (by omega), stR_eq]; exact nw_q S1 j hj⟩
      cases hl : lv (S 174) k with
      | true =>
        rw [if_pos rfl]
        simp (disch := omega) only [gX11_seen, fX11_seen_0, fX11_seen_1, fX11_seen_4, fX11_seen_6, fX11_seen_9, fX11_seen_12, fX11_seen_14, fX11_seen_17, fX11_seen_18, fX11_seen_19, fX11_seen_22, fX11_seen_28, fX11_seen_31, fX11_seen_34, fX11_seen_46, fX11_seen_49, fX11_seen_52, fX11_seen_54, mo_isO, kI_1, mo_f19, mo_r19, mo_f20, mo_r20, kB_o, Option.bind_some, n35, n9, n19, n51, n59, nI_add, ix2, ix8, ix22, ix5, ↓reduceIte, hanew, hip, bI_t, n1_0, hd, c_lives rwA_174, stR_ne (show 174 ≠ 175 by omega), stR_ne (show 174 ≠ 167 by omega), e174, hl, rw_r rwA_175, c_seenOf rwA_175, stR_eq, stR_ne (show 170 ≠ 175 by omega), stR_ne (show 170 ≠ 167 by omega), e170, seesM hy _ hk hl]
      | false =>
        rw [if_neg (by decide)]
        simp (disch := omega) only [gX11_seen, fX11_seen_0, fX11_seen_1, fX11_seen_4, fX11_seen_6, fX11_seen_9, fX11_seen_12, fX11_seen_14, fX11_seen_17, fX11_seen_18, fX11_seen_19, fX11_seen_22, fX11_seen_28, fX11_seen_31, fX11_seen_34, fX11_seen_46, fX11_seen_49, fX11_seen_52, fX11_seen_54, mo_isO, kI_1, mo_f19, mo_r19, mo_f20, mo_r20, kB_o, Option.bind_some, n35, n9, n19, n51, n59, nI_add, ix2, ix8, ix22, ix5, ↓reduceIte, hanew, hip, bI_t, n1_0, bI_f, n0_0, hd, c_lives rwA_174, stR_ne (show 174 ≠ 175 by omega), stR_ne (show 174 ≠ 167 by omega), e174, hl]
end Q3

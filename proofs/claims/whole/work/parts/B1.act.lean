-- ACTS
set_option maxRecDepth 100000 in
set_option maxHeartbeats 400000 in
theorem act_fin {S S0 S1 S2 S3 S4 : Mem} {T : Nat → Nat} {P N F U E u x : Nat} (h : Rl S T) (h14 : S 167 14 = nI 1) (hy : Yes S (T 0) P N F U E) (hfd : FdA S P) (hu : u ≤ 16) (hx : x < 16) (h23 : S 167 23 = nI u) (hw : ∀ i, i < u → agR (S (58 + 4 * ((x + 16 - u + i) % 16))) (rw22 S 176 i) P N ∧ Inv (rw22 S 176 i) P N 999)
    (a1 : fr S S0 [0]) (a2 : S0 0 12 = S 0 12) (k2 : S1 (58 + 4 * x) = cpR (S0 139) (S0 (58 + 4 * x)) 22) (k3 : S1 56 0 = nI (u1 u)) (k4 : S1 56 1 = nI (x1 x)) (k5 : fr S0 S1 [56, 58 + 4 * x]) (b1 : fr S1 S2 [0, 136, 139]) (b2 : S2 0 11 = nI 0) (b3 : S2 0 12 = S1 0 12)
    (n2 : ∀ i, i < u1 u → ∀ j, j < 22 → rw22 S3 176 i j = nrw (stR S2 167 (nw S2)) u i j) (n3 : S3 167 = up (stR S2 167 (nw S2) 167) 23 (nI (u1 u))) (n4 : fr (stR S2 167 (nw S2)) S3 [167, 176]) (d1 : fr S3 S4 [167, 174, 178, 179]) (d2 : ∀ j, j ≠ 25 → j ≠ 26 → S4 167 j = S3 167 j)
    (hag : agR (S2 139) (S4 174) P N) (hin : Inv (S4 174) P N 999) (hfd' : Fdd (S4 174) P) : Rl S4 T := by
  have hn58 : ∀ c, c ≠ 56 → c ≠ 58 + 4 * x → S1 c = S0 c := fun c h1 h2 => k5 c (by simp; omega)
  have hA : ∀ k, k < 16 → 58 + 4 * k ∈ AL := by decide
  have hB : ∀ k, k < 16 → 58 + 4 * k ∉ [0] ∧ 58 + 4 * k ∉ [0, 136, 139] ∧ 58 + 4 * k ≠ 167 ∧ 58 + 4 * k ∉ [167, 176] ∧ 58 + 4 * k ∉ [167, 174, 178, 179] := by decide
  have c0 : S4 0 = S2 0 := by rw [d1 0 (by decide), n4 0 (by decide), stR_ne (by omega)]
  have c56 : S4 56 = S1 56 := by rw [d1 56 (by decide), n4 56 (by decide), stR_ne (by omega), b1 56 (by decide)]
  have c139 : S4 139 = S2 139 := by rw [d1 139 (by decide), n4 139 (by decide), stR_ne (by omega)]
  have c167 : S2 167 = S 167 := by rw [b1 167 (by decide), hn58 167 (by omega) (by omega), a1 167 (by decide)]
  have c174 : S2 174 = S 174 := by rw [b1 174 (by decide), hn58 174 (by omega) (by omega), a1 174 (by decide)]
  have c176 : S2 176 = S 176 := by rw [b1 176 (by decide), hn58 176 (by omega) (by omega), a1 176 (by decide)]
  have cp : ∀ j, j ≠ 25 → j ≠ 26 → j ≠ 23 → S4 167 j = nw S2 j := fun j z1 z2 z3 => by rw [d2 j z1 z2, n3, stR_eq, up_ne z3]
  have hnr : nrw (stR S2 167 (nw S2)) u = nrw S u := by
    funext i j
    unfold nrw rw22
    rw [stR_ne (by omega), stR_ne (by omega), c174, c176]
  refine act_Rl (S := S) (u := u) (x := x) h h14 hy hfd hu hx h23 hw (fun c hc => ?_) (fun k hk hne => ?_) ?_ (by rw [c56]; exact k3) (by rw [c56]; exact k4) ?_ (fun i hi j hj => ?_) (by rw [c139]; exact hag) hin hfd' (by rw [c0]; exact b2) ?_ ?_ (fun j hj hj2 => ?_)
  · have z : ∀ c, c ∉ AL → c ∉ [0] ∧ c ∉ [0, 136, 139] ∧ c ≠ 167 ∧ c ∉ [167, 176] ∧ c ∉ [167, 174, 178, 179] ∧ c ≠ 56 := fun c hc => by
      simp only [AL, List.mem_cons, List.not_mem_nil, or_false, not_or] at hc ⊢
      omega
    obtain ⟨z1, z2, z3, z4, z5, z6⟩ := z c hc
    rw [d1 c z5, n4 c z4, stR_ne z3, b1 c z2, hn58 c z6 (fun e => hc (by rw [e]; exact hA x hx)), a1 c z1]
  · obtain ⟨z1, z2, z3, z4, z5⟩ := hB k hk
    rw [d1 _ z5, n4 _ z4, stR_ne z3, b1 _ z2, hn58 _ (by omega) (by omega), a1 _ z1]
  · obtain ⟨z1, z2, z3, z4, z5⟩ := hB x hx
    rw [d1 _ z5, n4 _ z4, stR_ne z3, b1 _ z2, k2, a1 139 (by decide)]
    exact agR_cp hy.1.1.2.1 hy.1.1.2.2.2.1 hy.2.2.2.2.1
  · rw [d2 23 (by omega) (by omega), n3, up_eq]
  · have e : rw22 S4 176 i = rw22 S3 176 i := by funext j; unfold rw22; rw [d1 176 (by decide)]
    rw [e, n2 i hi j hj, hnr]
  · rw [c0, b3, hn58 0 (by omega) (by omega), a2]
  · rw [cp 11 (by omega) (by omega) (by omega)]; exact up_eq
  · obtain ⟨a, b, c, d⟩ := pM_ne hj
    rw [cp j c d hj2, nw_q S2 j hj, c167]
set_option maxRecDepth 100000 in
set_option maxHeartbeats 400000 in
theorem fr_1 {S : Mem} {X : Row} : fr S (stR S 0 X) [0] := fr_st (fr_rf S _) (by simp)
set_option maxRecDepth 100000 in
set_option maxHeartbeats 400000 in
theorem Fdd_up {R : Row} {P i : Nat} {y : Int32} (h : Fdd R P) (h1 : i < 5 ∨ 14 ≤ i ∨ i = 10 ∨ i = 11 ∨ i = 12) (hP : P ≤ 5) : Fdd (up R i y) P := fun p hp => by
  obtain ⟨a, d, q1, q2, q3, q4⟩ := h p hp
  exact ⟨a, d, q1, q2, by rw [up_ne (by omega)]; exact q3, by rw [up_ne (by omega)]; exact q4⟩
set_option maxRecDepth 100000 in
set_option maxHeartbeats 400000 in
theorem agR_up {R Q : Row} {P N i : Nat} {y : Int32} (h : agR R Q P N) : agR (up R i y) (up Q i y) P N := by
  have e : ∀ j, R j = Q j → up R i y j = up Q i y j := fun j z => by unfold up; split <;> first | rfl | exact z
  exact ⟨fun p hp => ⟨e p (h.1 p hp).1, e (5 + p) (h.1 p hp).2⟩, fun j a b => e j (h.2.1 j a b), fun k hk => e (14 + k) (h.2.2 k hk)⟩
set_option maxRecDepth 100000 in
set_option maxHeartbeats 400000 in
theorem lv_up {R : Row} {i : Nat} {y : Int32} (h : i ≠ 10) (p : Nat) : lv (up R i y) p = lv R p := by unfold lv; rw [up_ne (Ne.symm h)]
section ACT1
variable {S : Mem} {J : MeJ} {T : Nat → Nat}
set_option maxRecDepth 100000 in
set_option maxHeartbeats 400000 in
theorem xr_b : ∀ x, x < 32 → ∀ p, p < 5 → ∃ y, y ≤ 31 ∧ nI x ^^^ (nI 1 <<< (nI p &&& 31)) = nI y := by
  have h : ∀ x, x < 32 → ∀ p, p < 5 → nI x ^^^ (nI 1 <<< (nI p &&& 31)) = nI (x ^^^ 2 ^ p) ∧ x ^^^ 2 ^ p ≤ 31 := by decide +kernel
  exact fun x hx p hp => ⟨_, (h x hx p hp).2, (h x hx p hp).1⟩
set_option maxRecDepth 100000 in
set_option maxHeartbeats 400000 in
theorem q_bid (h : Rl S T) (p : Int32) : bth (fun h => gX10_bid 0 p h) (fun h => gX11_bid 167 p h) S J T := by
  obtain ⟨ht, P, N, F, U, E, hB, hF⟩ := Rl_bas2 h
  obtain ⟨b1, b2, b3, b4, b5, b6, b7, b8, b9, b10⟩ := id hB
  have hanew : ∀ S1 : Mem, gX11_anew 167 (hp S1 J T) = some (hp (stR S1 167 (nw S1)) J T) := fun S1 => c_anew
  have hip : ∀ S1, S1 167 14 = S 167 14 → S1 170 = S 170 → gX11_isPerson 167 p (hp (stR S1 167 (nw S1)) J T) = some (bI (okB' p P), hp (stR S1 167 (nw S1)) J T) := fun S1 h1 h2 => m_isP (S1 := stR S1 167 (nw S1)) (J := J) (p := p) hB (by rw [stR_eq, nw14]; exact h1) (by rw [stR_ne (by omega)]; exact h2)
  cases hok : okB' p P with
  | false =>
    refine bth_q h (v := m1) (tr := nI 1) (cq_no ?_) (fun S1 hf => mq_no (X := up (nw S1) 11 (nI 1)) ?_ up_eq (nw_p S1 _)) n1_4
    · simp (disch := omega) only [gX10_bid, fX10_bid_0, fX10_bid_2, fX10_bid_5, fX10_bid_8, fX10_bid_10, fX10_bid_13, fX10_bid_14, fX10_bid_19, fX10_bid_22, fX10_bid_25, fX10_bid_27, fX10_bid_30, fX10_bid_31, fX10_bid_39, fX10_bid_42, fX10_bid_69, fX10_bid_72, lt_isO, kI_1, lt_f8, kI_5, lt_f5, hi_isO, Option.bind_some, n35, n9, n19, n51, n59, nI_add, ix2, ix8, ix22, ix5, ↓reduceIte, lt_isO, c_lacksPerson b1 b3, hok, Bool.not_false, bI_t, n1_0, c_refuse]
    · have hi := hip S1 (by rw [hf 167 (by decide)]) (hf 170 (by decide))
      rw [hok] at hi
      simp (disch := omega) only [gX11_bid, fX11_bid_0, fX11_bid_1, fX11_bid_4, fX11_bid_6, fX11_bid_9, fX11_bid_12, fX11_bid_14, fX11_bid_17, fX11_bid_18, fX11_bid_24, fX11_bid_27, fX11_bid_30, fX11_bid_32, fX11_bid_35, fX11_bid_36, fX11_bid_37, fX11_bid_40, mo_isO, kI_1, mo_f19, mo_r19, mo_w19, kI_5, kB_11, Option.bind_some, n35, n9, n19, n51, n59, nI_add, ix2, ix8, ix22, ix5, ↓reduceIte, hanew, hi, bI_f, n0_0, c_no, stR_stR, stR_eq]
  | true =>
    obtain rfl := ok_yes hB hok
    obtain ⟨j, hj, rfl⟩ := okB_t (by omega) hok
    have hlp : gX10_lacksPerson 0 (nI j) (hp S J T) = some (nI 0, hp S J T) := by rw [c_lacksPerson b1 b3, hok]; rfl
    have hdd : S 139 10 = S 174 10 := (b9 rfl).2.2.2.2.1.2.1 10 (by omega) (by omega)
    have h11 : S 139 11 = S 174 11 := (b9 rfl).2.2.2.2.1.2.1 11 (by omega) (by omega)
    cases hd : bt (S 174 10) j with
    | true =>
      have hlv : lv (S 174) j = false := by unfold lv; rw [hd]; rfl
      refine bth_q h (v := m1) (tr := nI 5) (cq_no ?_) (fun S1 hf => mq_no (X := up (nw S1) 11 (nI 5)) ?_ up_eq (nw_p S1 _)) (by decide)
      · simp (disch := omega) only [gX10_bid, fX10_bid_0, fX10_bid_2, fX10_bid_5, fX10_bid_8, fX10_bid_10, fX10_bid_13, fX10_bid_14, fX10_bid_19, fX10_bid_22, fX10_bid_25, fX10_bid_27, fX10_bid_30, fX10_bid_31, fX10_bid_39, fX10_bid_42, fX10_bid_69, fX10_bid_72, lt_isO, kI_1, lt_f8, kI_5, lt_f5, hi_isO, Option.bind_some, n35, n9, n19, n51, n59, nI_add, ix2, ix8, ix22, ix5, ↓reduceIte, lt_isO, hlp, n0_0, pl_isO plA_139, c_isDead plA_139, hdd, hd, bI_t, n1_0, c_refuse]
      · have hi := hip S1 (by rw [hf 167 (by decide)]) (hf 170 (by decide))
        rw [hok] at hi
        have hl := c_lives (S := stR S1 167 (nw S1)) (J := J) (T := T) (w := 174) rwA_174 (p := j) (by omega)
        rw [stR_ne (show 174 ≠ 167 by omega), hf 174 (by decide), hlv] at hl
        simp (disch := omega) only [gX11_bid, fX11_bid_0, fX11_bid_1, fX11_bid_4, fX11_bid_6, fX11_bid_9, fX11_bid_12, fX11_bid_14, fX11_bid_17, fX11_bid_18, fX11_bid_24, fX11_bid_27, fX11_bid_30, fX11_bid_32, fX11_bid_35, fX11_bid_36, fX11_bid_37, fX11_bid_40, mo_isO, kI_1, mo_f19, mo_r19, mo_w19, kI_5, kB_11, Option.bind_some, n35, n9, n19, n51, n59, nI_add, ix2, ix8, ix22, ix5, ↓reduceIte, hanew, hi, bI_t, bI_f, n0_0, n1_0, hl, c_no, stR_stR, stR_eq]
    | false =>
      have hlv : lv (S 174) j = true := by unfold lv; rw [hd]; rfl
      have hy := b9 rfl
      have hfd := hF rfl
      obtain ⟨u, x, w1, w2, w3, w4, w5, w6⟩ := hy.2.2.2.2.2.2.1
      obtain ⟨S1, k1, k2, k3, k4, k5⟩ := c_hkeep (S := S) (J := J) (T := T) w1 w2 (by exact w3) (by exact w4)
      have f139 : S1 139 = S 139 := by rw [k5 139 (by simp; omega)]
      have f0 : S1 0 = S 0 := by rw [k5 0 (by simp; omega)]
      generalize hS2 : stR (stR S1 139 (up (S 139) 11 (S 139 11 ^^^ (nI 1 <<< (nI j &&& 31))))) 0 (up (S1 0) 11 (nI 0)) = S2
      have g0 : S2 0 = up (S1 0) 11 (nI 0) := by rw [← hS2, stR_eq]
      have g139 : S2 139 = up (S 139) 11 (S 139 11 ^^^ (nI 1 <<< (nI j &&& 31))) := by rw [← hS2, stR_ne (by omega), stR_eq]
      have gf : fr S1 S2 [0, 136, 139] := by rw [← hS2]; exact fr_st (fr_st (fr_rf S1 _) (by decide)) (by decide)
      have gS : ∀ c, c ∉ [0, 136, 139] → c ≠ 56 → c ≠ 58 + 4 * x → S2 c = S c := fun c z1 z2 z3 => by rw [gf c z1, k5 c (by simp; omega)]
      have e167 : S2 167 = S 167 := gS 167 (by decide) (by omega) (by omega)
      have e170 : S2 170 = S 170 := gS 170 (by decide) (by omega) (by omega)
      have e174 : S2 174 = S 174 := gS 174 (by decide) (by omega) (by omega)
      have h14 : nw S2 14 = nI 1 := by rw [nw14, e167]; exact b7
      obtain ⟨S3, n1, n2, n3, n4⟩ := c_note (S := stR S2 167 (nw S2)) (J := J) (T := T) (u := u) w1 (by rw [stR_eq, nw_q S2 23 (by decide), e167]; exact w5)
      have i174 : S3 174 = S 174 := by rw [n4 174 (by decide), stR_ne (by omega)]; exact e174
      have hi := hip S2 (by rw [e167]) e170
      rw [hok] at hi
      have hl := c_lives (S := stR S2 167 (nw S2)) (J := J) (T := T) (w := 174) rwA_174 (p := j) (by omega)
      rw [stR_ne (show 174 ≠ 167 by omega), e174, hlv] at hl
      have hQ : up (S 139) 11 (S 139 11 ^^^ (nI 1 <<< (nI j &&& 31))) = up (S 139) 11 (S 174 11 ^^^ (nI 1 <<< (nI j &&& 31))) := by rw [h11]
      rw [hQ] at g139
      refine ⟨((S 174 11 ^^^ (nI 1 <<< (nI j &&& 31))) >>> (nI j &&& 31)) &&& nI 1, S2, stR S3 174 (up (S 174) 11 (S 174 11 ^^^ (nI 1 <<< (nI j &&& 31)))), J, J, T, ?_, ?_, act_fin (S0 := S) (S1 := S1) (S2 := S2) (S3 := S3) h b7 hy hfd w1 w2 w5 w6 (fr_rf S _) rfl k2 k3 k4 k5 gf (by rw [g0, up_eq]) (by rw [g0, up_ne (by omega)]) n2 n3 n4 (fr_st (fr_rf S3 _) (by decide)) (fun j _ _ => by rw [stR_ne (by omega)]) ?_ ?_ ?_⟩
      · rw [← hS2]
        simp (disch := omega) only [gX10_bid, fX10_bid_0, fX10_bid_2, fX10_bid_5, fX10_bid_8, fX10_bid_10, fX10_bid_13, fX10_bid_14, fX10_bid_19, fX10_bid_22, fX10_bid_25, fX10_bid_27, fX10_bid_30, fX10_bid_31, fX10_bid_39, fX10_bid_42, fX10_bid_69, fX10_bid_72, lt_isO, kI_1, lt_f8, pl_isO plA_139, kI_5, lt_f5, hi_isO, pl_g4 plA_139, pl_p4 plA_139, Option.bind_some, n35, n9, n19, n51, n59, nI_add, ix2, ix8, ix22, ix5, ↓reduceIte, lt_isO, hi_isO, pl_isO plA_139, hlp, n0_0, c_isDead plA_139, hdd, hd, bI_f, k1, f139, h11, stS_R, stR_eq, up_eq, c_answer, stR_ne (show 0 ≠ 139 by omega)]
      · simp (disch := omega) only [gX11_bid, fX11_bid_0, fX11_bid_1, fX11_bid_4, fX11_bid_6, fX11_bid_9, fX11_bid_12, fX11_bid_14, fX11_bid_17, fX11_bid_18, fX11_bid_24, fX11_bid_27, fX11_bid_30, fX11_bid_32, fX11_bid_35, fX11_bid_36, fX11_bid_37, fX11_bid_40, mo_isO, kI_1, mo_f19, mo_r19, mo_w19, kI_5, kB_11, Option.bind_some, n35, n9, n19, n51, n59, nI_add, ix2, ix8, ix22, ix5, ↓reduceIte, hanew, hi, bI_t, n1_0, hl, n1, rw_r rwA_174, rw_w rwA_174, i174, stS_R, stR_eq, up_eq]
      · rw [g139, stR_eq]
        exact agR_up hy.2.2.2.2.1
      · rw [stR_eq]
        obtain ⟨i1, i2, i3, i4, i5, i6, i7, i8⟩ := hy.2.2.2.2.2.1
        obtain ⟨y, hy1, hy2⟩ : ∃ y, y ≤ 31 ∧ S 174 11 ^^^ (nI 1 <<< (nI j &&& 31)) = nI y := by
          obtain ⟨z, hz, ez⟩ := i8
          rw [ez]
          exact xr_b z (by omega) j (by omega)
        exact ⟨fun p hp => by rw [up_ne (by omega)]; exact i1 p hp, fun p hp hl => by rw [up_ne (by omega)]; exact i2 p hp (by rw [← lv_up (i := 11) (by omega)]; exact hl), fun p hp => by rw [up_ne (by omega)]; exact i3 p hp, by rw [up_ne (by omega)]; exact i4, fun k hk => by rw [up_ne (by omega)]; exact i5 k hk, by rw [up_ne (by omega)]; exact i6, by rw [up_ne (by omega)]; exact i7, by rw [up_eq]; exact ⟨y, hy1, hy2⟩⟩
      · rw [stR_eq]
        exact Fdd_up hfd.1 (by omega) b5
set_option maxRecDepth 100000 in
set_option maxHeartbeats 400000 in
theorem q_pour (h : Rl S T) (n : Int32) : bth (fun h => gX10_pour 0 n h) (fun h => gX11_pour 167 n h) S J T := by
  obtain ⟨ht, P, N, F, U, E, hB, hF⟩ := Rl_bas2 h
  obtain ⟨b1, b2, b3, b4, b5, b6, b7, b8, b9, b10⟩ := id hB
  have hanew : ∀ S1 : Mem, gX11_anew 167 (hp S1 J T) = some (hp (stR S1 167 (nw S1)) J T) := fun S1 => c_anew
  cases hno : (ht && inB n (nI 1) (nI 99)) with
  | false =>
    refine bth_q h (v := m1) (tr := why ht (inB n (nI 1) (nI 99))) (cq_no ?_) (fun S1 hf => mq_no (X := up (nw S1) 11 (why ht (inB n (nI 1) (nI 99)))) ?_ up_eq (nw_p S1 _)) (why_4 _ _)
    · simp (disch := omega) only [gX10_pour, fX10_pour_0, fX10_pour_2, fX10_pour_5, fX10_pour_9, fX10_pour_12, fX10_pour_15, fX10_pour_17, fX10_pour_31, fX10_pour_33, fX10_pour_36, fX10_pour_37, fX10_pour_45, fX10_pour_48, fX10_pour_69, fX10_pour_72, lt_isO, kI_1, kB_99, kI_n, lt_f8, kI_3, lt_f5, hi_isO, Option.bind_some, n35, n9, n19, n51, n59, nI_add, ix2, ix8, ix22, ix5, ↓reduceIte, lt_isO, c_lacksTable b1 b3 b5, b8, c_isRefused, hno, Bool.not_false, bI_t, n1_0]
    · have h14 : nw S1 14 = bI ht := by rw [nw14, hf 167 (by decide)]; exact b7
      simp (disch := omega) only [gX11_pour, fX11_pour_0, fX11_pour_1, fX11_pour_4, fX11_pour_13, fX11_pour_16, fX11_pour_19, fX11_pour_24, fX11_pour_38, fX11_pour_40, fX11_pour_44, fX11_pour_46, fX11_pour_49, fX11_pour_50, fX11_pour_51, fX11_pour_54, mo_isO, mo_g14, kI_1, kB_99, mo_f19, mo_r19, mo_w19, kB_12, kI_3, Option.bind_some, n35, n9, n19, n51, n59, nI_add, ix2, ix8, ix22, ix5, ↓reduceIte, hanew, stR_eq, h14, c_in, c_why, why_ne hno, c_no, stR_stR]
  | true =>
    rw [Bool.and_eq_true] at hno
    obtain ⟨rfl, hin⟩ := hno
    obtain ⟨k, hk, hk2, rfl⟩ := inB_t (by omega) (by omega) hin
    have hlk := c_lack1 (J := J) hB
    have h12 : S 139 12 = S 174 12 := (b9 rfl).2.2.2.2.1.2.1 12 (by omega) (by omega)
    obtain ⟨l, hl, el⟩ := (b9 rfl).2.2.2.2.2.1.2.2.2.1
    have hcin : ∀ h : aH, gX11_in (nI k) (nI 1) (nI 99) h = some (nI 1, h) := fun h => by rw [c_in, hin]; rfl
    have hcw : ∀ S1 : Mem, gX11_why 167 (nI 1) (nI 1) (hp S1 J T) = some (nI 0, hp S1 J T) := fun S1 => c_why (a := true) (b := true)
    by_cases hlk2 : 99 < l + k
    · refine bth_q h (v := m1) (tr := nI 3) (cq_no ?_) (fun S1 hf => mq_no (X := up (nw S1) 11 (nI 3)) ?_ up_eq (nw_p S1 _)) (by decide)
      · simp (disch := omega) only [gX10_pour, fX10_pour_0, fX10_pour_2, fX10_pour_5, fX10_pour_9, fX10_pour_12, fX10_pour_15, fX10_pour_17, fX10_pour_31, fX10_pour_33, fX10_pour_36, fX10_pour_37, fX10_pour_45, fX10_pour_48, fX10_pour_69, fX10_pour_72, lt_isO, kI_1, kB_99, kI_n, lt_f8, pl_g5 plA_139, kI_3, lt_f5, hi_isO, pl_p5 plA_139, Option.bind_some, n35, n9, n19, n51, n59, nI_add, ix2, ix8, ix22, ix5, ↓reduceIte, lt_isO, hlk, c_isRef1 hin, n0_0, stR_ne (show 139 ≠ 0 by omega), h12, el, lt_eq, hlk2, c_refuse, stR_stR, stR_eq, up_up]
      · have h14 : nw S1 14 = nI 1 := by rw [nw14, hf 167 (by decide)]; exact b7
        simp (disch := omega) only [gX11_pour, fX11_pour_0, fX11_pour_1, fX11_pour_4, fX11_pour_13, fX11_pour_16, fX11_pour_19, fX11_pour_24, fX11_pour_38, fX11_pour_40, fX11_pour_44, fX11_pour_46, fX11_pour_49, fX11_pour_50, fX11_pour_51, fX11_pour_54, mo_isO, mo_g14, kI_1, kB_99, mo_f19, mo_r19, mo_w19, kB_12, kI_3, Option.bind_some, n35, n9, n19, n51, n59, nI_add, ix2, ix8, ix22, ix5, ↓reduceIte, hanew, stR_eq, h14, hcin, hcw, n0_0, rw_r rwA_174, stR_ne (show 174 ≠ 167 by omega), hf 174 (by decide), el, lt_eq, hlk2, show (nI 3 = 0) = False from eq_false (by decide), c_no, stR_stR]
    · have e3 : (99 < l + k) = False := eq_false hlk2
      have hy := b9 rfl
      have hfd := hF rfl
      obtain ⟨u, x, w1, w2, w3, w4, w5, w6⟩ := hy.2.2.2.2.2.2.1
      obtain ⟨S1, k1, k2, k3, k4, k5⟩ := c_hkeep (S := stR S 0 (up (S 0) 11 (nI 0))) (J := J) (T := T) w1 w2 (by rw [stR_ne (by omega)]; exact w3) (by rw [stR_ne (by omega)]; exact w4)
      have f139 : S1 139 = S 139 := by rw [k5 139 (by simp; omega)]; rw [stR_ne (by omega)]
      have f0 : S1 0 = (up (S 0) 11 (nI 0)) := by rw [k5 0 (by simp; omega)]; rw [stR_eq]
      generalize hS2 : stR (stR S1 139 (up (S 139) 12 (nI (l + k)))) 0 (up (S1 0) 11 (nI 0)) = S2
      have g0 : S2 0 = up (S1 0) 11 (nI 0) := by rw [← hS2, stR_eq]
      have g139 : S2 139 = up (S 139) 12 (nI (l + k)) := by rw [← hS2, stR_ne (by omega), stR_eq]
      have gf : fr S1 S2 [0, 136, 139] := by rw [← hS2]; exact fr_st (fr_st (fr_rf S1 _) (by decide)) (by decide)
      have gS : ∀ c, c ∉ [0, 136, 139] → c ≠ 56 → c ≠ 58 + 4 * x → S2 c = S c := fun c z1 z2 z3 => by rw [gf c z1, k5 c (by simp; omega)]; rw [stR_ne (by simp at z1; omega)]
      have e167 : S2 167 = S 167 := gS 167 (by decide) (by omega) (by omega)
      have e170 : S2 170 = S 170 := gS 170 (by decide) (by omega) (by omega)
      have e174 : S2 174 = S 174 := gS 174 (by decide) (by omega) (by omega)
      have h14 : nw S2 14 = nI 1 := by rw [nw14, e167]; exact b7
      obtain ⟨S3, n1, n2, n3, n4⟩ := c_note (S := stR S2 167 (nw S2)) (J := J) (T := T) (u := u) w1 (by rw [stR_eq, nw_q S2 23 (by decide), e167]; exact w5)
      have i174 : S3 174 = S 174 := by rw [n4 174 (by decide), stR_ne (by omega)]; exact e174
      refine ⟨nI (l + k), S2, stR S3 174 (up (S 174) 12 (nI (l + k))), J, J, T, ?_, ?_, act_fin (S0 := stR S 0 (up (S 0) 11 (nI 0))) (S1 := S1) (S2 := S2) (S3 := S3) h b7 hy hfd w1 w2 w5 w6 fr_1 (by rw [stR_eq, up_ne (by omega)]) k2 k3 k4 k5 gf (by rw [g0, up_eq]) (by rw [g0, up_ne (by omega)]) n2 n3 n4 (fr_st (fr_rf S3 _) (by decide)) (fun j _ _ => by rw [stR_ne (by omega)]) ?_ ?_ ?_⟩
      · rw [← hS2]
        simp (disch := omega) only [gX10_pour, fX10_pour_0, fX10_pour_2, fX10_pour_5, fX10_pour_9, fX10_pour_12, fX10_pour_15, fX10_pour_17, fX10_pour_31, fX10_pour_33, fX10_pour_36, fX10_pour_37, fX10_pour_45, fX10_pour_48, fX10_pour_69, fX10_pour_72, lt_isO, kI_1, kB_99, kI_n, lt_f8, pl_g5 plA_139, kI_3, lt_f5, hi_isO, pl_p5 plA_139, Option.bind_some, n35, n9, n19, n51, n59, nI_add, ix2, ix8, ix22, ix5, ↓reduceIte, lt_isO, hi_isO, pl_isO plA_139, hlk, c_isRef1 hin, n0_0, stR_ne (show 139 ≠ 0 by omega), h12, el, lt_eq, e3, k1, f139, stS_R, stR_eq, up_eq, c_answer, stR_ne (show 0 ≠ 139 by omega)]
      · simp (disch := omega) only [gX11_pour, fX11_pour_0, fX11_pour_1, fX11_pour_4, fX11_pour_13, fX11_pour_16, fX11_pour_19, fX11_pour_24, fX11_pour_38, fX11_pour_40, fX11_pour_44, fX11_pour_46, fX11_pour_49, fX11_pour_50, fX11_pour_51, fX11_pour_54, mo_isO, mo_g14, kI_1, kB_99, mo_f19, mo_r19, mo_w19, kB_12, kI_3, Option.bind_some, n35, n9, n19, n51, n59, nI_add, ix2, ix8, ix22, ix5, ↓reduceIte, hanew, stR_eq, h14, hcin, hcw, n0_0, rw_r rwA_174, rw_w rwA_174, stR_ne (show 174 ≠ 167 by omega), e174, el, lt_eq, e3, n1, i174, stS_R, up_eq]
      · rw [g139, stR_eq]
        exact agR_up hy.2.2.2.2.1
      · rw [stR_eq]
        obtain ⟨i1, i2, i3, i4, i5, i6, i7, i8⟩ := hy.2.2.2.2.2.1
        exact ⟨fun p hp => by rw [up_ne (by omega)]; exact i1 p hp, fun p hp hl => by rw [up_ne (by omega)]; exact i2 p hp (by rw [← lv_up (i := 12) (by omega)]; exact hl), fun p hp => by rw [up_ne (by omega)]; exact i3 p hp, by rw [up_eq]; exact ⟨l + k, by omega, rfl⟩, fun k hk => by rw [up_ne (by omega)]; exact i5 k hk, by rw [up_ne (by omega)]; exact i6, by rw [up_ne (by omega)]; exact i7, by rw [up_ne (by omega)]; exact i8⟩
      · rw [stR_eq]
        exact Fdd_up hfd.1 (by omega) b5
set_option maxRecDepth 100000 in
set_option maxHeartbeats 400000 in
theorem q_value (h : Rl S T) (p n : Int32) : bth (fun h => gX10_value 0 p n h) (fun h => gX11_value 167 p n h) S J T := by
  obtain ⟨ht, P, N, F, U, E, hB, hF⟩ := Rl_bas2 h
  obtain ⟨b1, b2, b3, b4, b5, b6, b7, b8, b9, b10⟩ := id hB
  have hanew : ∀ S1 : Mem, gX11_anew 167 (hp S1 J T) = some (hp (stR S1 167 (nw S1)) J T) := fun S1 => c_anew
  have hip : ∀ S1, S1 167 14 = S 167 14 → S1 170 = S 170 → gX11_isName 167 p (hp (stR S1 167 (nw S1)) J T) = some (bI (okB' p N), hp (stR S1 167 (nw S1)) J T) := fun S1 h1 h2 => m_isN (S1 := stR S1 167 (nw S1)) (J := J) (p := p) hB (by rw [stR_eq, nw14]; exact h1) (by rw [stR_ne (by omega)]; exact h2)
  cases hno : (okB' p N && inB n (nI 0) (nI 20)) with
  | false =>
    refine bth_q h (v := m1) (tr := why (okB' p N) (inB n (nI 0) (nI 20))) (cq_no ?_) (fun S1 hf => mq_no (X := up (nw S1) 11 (why (okB' p N) (inB n (nI 0) (nI 20)))) ?_ up_eq (nw_p S1 _)) (why_4 _ _)
    · simp (disch := omega) only [gX10_value, fX10_value_0, fX10_value_3, fX10_value_6, fX10_value_10, fX10_value_13, fX10_value_16, fX10_value_18, fX10_value_33, fX10_value_35, fX10_value_38, fX10_value_39, fX10_value_47, fX10_value_50, fX10_value_62, fX10_value_65, lt_isO, kI_0, kB_20, kI_n, lt_f8, kI_5, lt_f5, hi_isO, Option.bind_some, n35, n9, n19, n51, n59, nI_add, ix2, ix8, ix22, ix5, ↓reduceIte, lt_isO, c_lacksName b1 b4, c_isRefused, hno, Bool.not_false, bI_t, n1_0]
    · have hi := hip S1 (by rw [hf 167 (by decide)]) (hf 170 (by decide))
      simp (disch := omega) only [gX11_value, fX11_value_0, fX11_value_1, fX11_value_4, fX11_value_7, fX11_value_10, fX11_value_14, fX11_value_17, fX11_value_20, fX11_value_25, fX11_value_38, fX11_value_40, fX11_value_44, fX11_value_46, fX11_value_49, fX11_value_50, fX11_value_51, fX11_value_54, mo_isO, kI_0, kB_20, mo_f19, mo_r19, mo_w19, kB_14, kI_5, Option.bind_some, n35, n9, n19, n51, n59, nI_add, ix2, ix8, ix22, ix5, ↓reduceIte, hanew, hi, c_in, c_why, why_ne hno, c_no, stR_stR, stR_eq]
  | true =>
    rw [Bool.and_eq_true] at hno
    obtain ⟨hok, hin⟩ := hno
    obtain rfl := ok_yesN hB hok
    obtain ⟨j, hj, rfl⟩ := okB_t (by omega) hok
    obtain ⟨k, hk, hk2, rfl⟩ := inB_t (by omega) (by omega) hin
    have hln : gX10_lacksName 0 (nI j) (hp S J T) = some (nI 0, hp S J T) := by rw [c_lacksName b1 b4, hok]; rfl
    have hv : S 139 (14 + j) = S 174 (14 + j) := (b9 rfl).2.2.2.2.1.2.2 j hj
    have hcin : ∀ h : aH, gX11_in (nI k) (nI 0) (nI 20) h = some (nI 1, h) := fun h => by rw [c_in, hin]; rfl
    have hcw : ∀ S1 : Mem, gX11_why 167 (nI 1) (nI 1) (hp S1 J T) = some (nI 0, hp S1 J T) := fun S1 => c_why (a := true) (b := true)
    by_cases hq : S 174 (14 + j) = nI k
    · refine bth_q h (v := m1) (tr := nI 5) (cq_no ?_) (fun S1 hf => mq_no (X := up (nw S1) 11 (nI 5)) ?_ up_eq (nw_p S1 _)) (by decide)
      · simp (disch := omega) only [gX10_value, fX10_value_0, fX10_value_3, fX10_value_6, fX10_value_10, fX10_value_13, fX10_value_16, fX10_value_18, fX10_value_33, fX10_value_35, fX10_value_38, fX10_value_39, fX10_value_47, fX10_value_50, fX10_value_62, fX10_value_65, lt_isO, kI_0, kB_20, kI_n, lt_f8, pl_f2 plA_139, pl_r2 plA_139, pl_w2 plA_139, kI_5, lt_f5, hi_isO, Option.bind_some, n35, n9, n19, n51, n59, nI_add, ix2, ix8, ix22, ix5, ↓reduceIte, lt_isO, hln, c_isRef1 hin, n0_0, stR_ne (show 139 ≠ 0 by omega), hv, hq, c_refuse, stR_stR, stR_eq, up_up]
      · have hi := hip S1 (by rw [hf 167 (by decide)]) (hf 170 (by decide))
        rw [hok] at hi
        simp (disch := omega) only [gX11_value, fX11_value_0, fX11_value_1, fX11_value_4, fX11_value_7, fX11_value_10, fX11_value_14, fX11_value_17, fX11_value_20, fX11_value_25, fX11_value_38, fX11_value_40, fX11_value_44, fX11_value_46, fX11_value_49, fX11_value_50, fX11_value_51, fX11_value_54, mo_isO, kI_0, kB_20, mo_f19, mo_r19, mo_w19, kB_14, kI_5, Option.bind_some, n35, n9, n19, n51, n59, nI_add, ix2, ix8, ix22, ix5, ↓reduceIte, hanew, hi, bI_t, hcin, hcw, n0_0, rw_r rwA_174, stR_ne (show 174 ≠ 167 by omega), hf 174 (by decide), hq, show (nI 5 = 0) = False from eq_false (by decide), c_no, stR_stR, stR_eq]
    · have e3 : (S 174 (14 + j) = nI k) = False := eq_false hq
      have hy := b9 rfl
      have hfd := hF rfl
      obtain ⟨u, x, w1, w2, w3, w4, w5, w6⟩ := hy.2.2.2.2.2.2.1
      obtain ⟨S1, k1, k2, k3, k4, k5⟩ := c_hkeep (S := stR S 0 (up (S 0) 11 (nI 0))) (J := J) (T := T) w1 w2 (by rw [stR_ne (by omega)]; exact w3) (by rw [stR_ne (by omega)]; exact w4)
      have f139 : S1 139 = S 139 := by rw [k5 139 (by simp; omega)]; rw [stR_ne (by omega)]
      have f0 : S1 0 = (up (S 0) 11 (nI 0)) := by rw [k5 0 (by simp; omega)]; rw [stR_eq]
      generalize hS2 : stR (stR S1 139 (up (S 139) (14 + j) (nI k))) 0 (up (S1 0) 11 (nI 0)) = S2
      have g0 : S2 0 = up (S1 0) 11 (nI 0) := by rw [← hS2, stR_eq]
      have g139 : S2 139 = up (S 139) (14 + j) (nI k) := by rw [← hS2, stR_ne (by omega), stR_eq]
      have gf : fr S1 S2 [0, 136, 139] := by rw [← hS2]; exact fr_st (fr_st (fr_rf S1 _) (by decide)) (by decide)
      have gS : ∀ c, c ∉ [0, 136, 139] → c ≠ 56 → c ≠ 58 + 4 * x → S2 c = S c := fun c z1 z2 z3 => by rw [gf c z1, k5 c (by simp; omega)]; rw [stR_ne (by simp at z1; omega)]
      have e167 : S2 167 = S 167 := gS 167 (by decide) (by omega) (by omega)
      have e170 : S2 170 = S 170 := gS 170 (by decide) (by omega) (by omega)
      have e174 : S2 174 = S 174 := gS 174 (by decide) (by omega) (by omega)
      have h14 : nw S2 14 = nI 1 := by rw [nw14, e167]; exact b7
      obtain ⟨S3, n1, n2, n3, n4⟩ := c_note (S := stR S2 167 (nw S2)) (J := J) (T := T) (u := u) w1 (by rw [stR_eq, nw_q S2 23 (by decide), e167]; exact w5)
      have i174 : S3 174 = S 174 := by rw [n4 174 (by decide), stR_ne (by omega)]; exact e174
      have hi := hip S2 (by rw [e167]) e170
      rw [hok] at hi
      refine ⟨S 174 (14 + j), S2, stR S3 174 (up (S 174) (14 + j) (nI k)), J, J, T, ?_, ?_, act_fin (S0 := stR S 0 (up (S 0) 11 (nI 0))) (S1 := S1) (S2 := S2) (S3 := S3) h b7 hy hfd w1 w2 w5 w6 fr_1 (by rw [stR_eq, up_ne (by omega)]) k2 k3 k4 k5 gf (by rw [g0, up_eq]) (by rw [g0, up_ne (by omega)]) n2 n3 n4 (fr_st (fr_rf S3 _) (by decide)) (fun j _ _ => by rw [stR_ne (by omega)]) ?_ ?_ ?_⟩
      · rw [← hS2]
        simp (disch := omega) only [gX10_value, fX10_value_0, fX10_value_3, fX10_value_6, fX10_value_10, fX10_value_13, fX10_value_16, fX10_value_18, fX10_value_33, fX10_value_35, fX10_value_38, fX10_value_39, fX10_value_47, fX10_value_50, fX10_value_62, fX10_value_65, lt_isO, kI_0, kB_20, kI_n, lt_f8, pl_f2 plA_139, pl_r2 plA_139, pl_w2 plA_139, kI_5, lt_f5, hi_isO, Option.bind_some, n35, n9, n19, n51, n59, nI_add, ix2, ix8, ix22, ix5, ↓reduceIte, lt_isO, hi_isO, pl_isO plA_139, hln, c_isRef1 hin, n0_0, stR_ne (show 139 ≠ 0 by omega), hv, e3, k1, f139, stS_R, stR_eq, c_answer, stR_ne (show 0 ≠ 139 by omega)]
      · simp (disch := omega) only [gX11_value, fX11_value_0, fX11_value_1, fX11_value_4, fX11_value_7, fX11_value_10, fX11_value_14, fX11_value_17, fX11_value_20, fX11_value_25, fX11_value_38, fX11_value_40, fX11_value_44, fX11_value_46, fX11_value_49, fX11_value_50, fX11_value_51, fX11_value_54, mo_isO, kI_0, kB_20, mo_f19, mo_r19, mo_w19, kB_14, kI_5, Option.bind_some, n35, n9, n19, n51, n59, nI_add, ix2, ix8, ix22, ix5, ↓reduceIte, hanew, stR_eq, hi, bI_t, hcin, hcw, n0_0, rw_r rwA_174, rw_w rwA_174, stR_ne (show 174 ≠ 167 by omega), e174, e3, n1, i174, stS_R]
      · rw [g139, stR_eq]
        exact agR_up hy.2.2.2.2.1
      · rw [stR_eq]
        obtain ⟨i1, i2, i3, i4, i5, i6, i7, i8⟩ := hy.2.2.2.2.2.1
        exact ⟨fun p hp => by rw [up_ne (by omega)]; exact i1 p hp, fun p hp hl => by rw [up_ne (by omega)]; exact i2 p hp (by rw [← lv_up (i := 14 + j) (by omega)]; exact hl), fun p hp => by rw [up_ne (by omega)]; exact i3 p hp, by rw [up_ne (by omega)]; exact i4, fun q hq2 => by
          by_cases z : q = j
          · rw [z, up_eq]; exact ⟨k, hk2, rfl⟩
          · rw [up_ne (by omega)]; exact i5 q hq2, by rw [up_ne (by omega)]; exact i6, by rw [up_ne (by omega)]; exact i7, by rw [up_ne (by omega)]; exact i8⟩
      · rw [stR_eq]
        exact Fdd_up hfd.1 (by omega) b5
set_option maxRecDepth 100000 in
set_option maxHeartbeats 400000 in
theorem q_give (h : Rl S T) (p n : Int32) : bth (fun h => gX10_give 0 p n h) (fun h => gX11_give 167 p n h) S J T := by
  obtain ⟨ht, P, N, F, U, E, hB, hF⟩ := Rl_bas2 h
  obtain ⟨b1, b2, b3, b4, b5, b6, b7, b8, b9, b10⟩ := id hB
  have hanew : ∀ S1 : Mem, gX11_anew 167 (hp S1 J T) = some (hp (stR S1 167 (nw S1)) J T) := fun S1 => c_anew
  have hip : ∀ S1, S1 167 14 = S 167 14 → S1 170 = S 170 → gX11_isPerson 167 p (hp (stR S1 167 (nw S1)) J T) = some (bI (okB' p P), hp (stR S1 167 (nw S1)) J T) := fun S1 h1 h2 => m_isP (S1 := stR S1 167 (nw S1)) (J := J) (p := p) hB (by rw [stR_eq, nw14]; exact h1) (by rw [stR_ne (by omega)]; exact h2)
  cases hno : (okB' p P && inB n (nI 1) (nI 99)) with
  | false =>
    refine bth_q h (v := m1) (tr := why (okB' p P) (inB n (nI 1) (nI 99))) (cq_no ?_) (fun S1 hf => mq_no (X := up (nw S1) 11 (why (okB' p P) (inB n (nI 1) (nI 99)))) ?_ up_eq (nw_p S1 _)) (why_4 _ _)
    · simp (disch := omega) only [gX10_give, fX10_give_0, fX10_give_3, fX10_give_6, fX10_give_10, fX10_give_13, fX10_give_16, fX10_give_18, fX10_give_23, fX10_give_26, fX10_give_29, fX10_give_41, fX10_give_43, fX10_give_46, fX10_give_47, fX10_give_55, fX10_give_58, fX10_give_78, fX10_give_81, fX10_give_92, fX10_give_95, lt_isO, kI_1, kB_99, kI_n, lt_f8, kI_5, lt_f5, hi_isO, kI_0, Option.bind_some, n35, n9, n19, n51, n59, nI_add, ix2, ix8, ix22, ix5, ↓reduceIte, lt_isO, c_lacksPerson b1 b3, c_isRefused, hno, Bool.not_false, bI_t, n1_0]
    · have hi := hip S1 (by rw [hf 167 (by decide)]) (hf 170 (by decide))
      simp (disch := omega) only [gX11_give, fX11_give_0, fX11_give_1, fX11_give_4, fX11_give_7, fX11_give_10, fX11_give_14, fX11_give_17, fX11_give_20, fX11_give_25, fX11_give_31, fX11_give_34, fX11_give_37, fX11_give_46, fX11_give_52, fX11_give_54, fX11_give_57, fX11_give_58, fX11_give_59, fX11_give_62, fX11_give_77, fX11_give_88, fX11_give_89, mo_isO, kI_1, kB_99, mo_f19, mo_r19, mo_w19, kI_5, kI_0, Option.bind_some, n35, n9, n19, n51, n59, nI_add, ix2, ix8, ix22, ix5, ↓reduceIte, hanew, hi, c_in, c_why, why_ne hno]
      simp (disch := omega) only [gX11_give, fX11_give_0, fX11_give_1, fX11_give_4, fX11_give_7, fX11_give_10, fX11_give_14, fX11_give_17, fX11_give_20, fX11_give_25, fX11_give_31, fX11_give_34, fX11_give_37, fX11_give_46, fX11_give_48, fX11_give_52, fX11_give_54, fX11_give_57, fX11_give_58, fX11_give_59, fX11_give_62, fX11_give_77, fX11_give_88, fX11_give_89, mo_isO, kI_1, kB_99, mo_f19, mo_r19, mo_w19, kI_5, kI_0, Option.bind_some, n35, n9, n19, n51, n59, nI_add, ix2, ix8, ix22, ix5, ↓reduceIte, why_ne hno, c_no, stR_stR, stR_eq]
  | true =>
    rw [Bool.and_eq_true] at hno
    obtain ⟨hok, hin⟩ := hno
    obtain rfl := ok_yes hB hok
    obtain ⟨j, hj, rfl⟩ := okB_t (by omega) hok
    obtain ⟨k, hk, hk2, rfl⟩ := inB_t (by omega) (by omega) hin
    have hlp : gX10_lacksPerson 0 (nI j) (hp S J T) = some (nI 0, hp S J T) := by rw [c_lacksPerson b1 b3, hok]; rfl
    have hdd : S 139 10 = S 174 10 := (b9 rfl).2.2.2.2.1.2.1 10 (by omega) (by omega)
    have hg : S 139 j = S 174 j := ((b9 rfl).2.2.2.2.1.1 j hj).1
    obtain ⟨l, hl, el⟩ := (b9 rfl).2.2.2.2.2.1.1 j hj
    have hcin : ∀ h : aH, gX11_in (nI k) (nI 1) (nI 99) h = some (nI 1, h) := fun h => by rw [c_in, hin]; rfl
    have hcw : ∀ S1 : Mem, gX11_why 167 (nI 1) (nI 1) (hp S1 J T) = some (nI 0, hp S1 J T) := fun S1 => c_why (a := true) (b := true)
    have hlv : ∀ S1 : Mem, S1 174 = S 174 → gX11_lives 167 174 (nI j) (hp (stR S1 167 (nw S1)) J T) = some (bI (!bt (S 174 10) j), hp (stR S1 167 (nw S1)) J T) := fun S1 h1 => by
      rw [c_lives rwA_174 (show j < 32 by omega), stR_ne (show 174 ≠ 167 by omega), h1]
      rfl
    have n50 : (nI 5 = 0) = False := eq_false (by decide)
    by_cases hq : bt (S 174 10) j = true ∨ l = 0
    · refine bth_q h (v := m1) (tr := nI 5) (cq_no ?_) (fun S1 hf => mq_no (X := up (nw S1) 11 (nI 5)) ?_ up_eq (nw_p S1 _)) (by decide)
      · cases hd : bt (S 174 10) j with
        | true => simp (disch := omega) only [gX10_give, fX10_give_0, fX10_give_3, fX10_give_6, fX10_give_10, fX10_give_13, fX10_give_16, fX10_give_18, fX10_give_23, fX10_give_26, fX10_give_29, fX10_give_41, fX10_give_43, fX10_give_46, fX10_give_47, fX10_give_55, fX10_give_58, fX10_give_78, fX10_give_81, fX10_give_92, fX10_give_95, lt_isO, kI_1, kB_99, kI_n, lt_f8, pl_isO plA_139, pl_f0 plA_139, pl_r0 plA_139, pl_w0 plA_139, kI_5, lt_f5, hi_isO, kI_0, Option.bind_some, n35, n9, n19, n51, n59, nI_add, ix2, ix8, ix22, ix5, ↓reduceIte, lt_isO, pl_isO plA_139, hlp, c_isRef1 hin, n0_0, n1_0, c_isDead plA_139, stR_ne (show 139 ≠ 0 by omega), hdd, hd, bI_t, c_refuse, stR_stR, stR_eq, up_up]
        | false =>
          have l0 : l = 0 := by
            rcases hq with z | z
            · rw [hd] at z; cases z
            · exact z
          simp (disch := omega) only [gX10_give, fX10_give_0, fX10_give_3, fX10_give_6, fX10_give_10, fX10_give_13, fX10_give_16, fX10_give_18, fX10_give_23, fX10_give_26, fX10_give_29, fX10_give_41, fX10_give_43, fX10_give_46, fX10_give_47, fX10_give_55, fX10_give_58, fX10_give_78, fX10_give_81, fX10_give_92, fX10_give_95, lt_isO, kI_1, kB_99, kI_n, lt_f8, pl_isO plA_139, pl_f0 plA_139, pl_r0 plA_139, pl_w0 plA_139, kI_5, lt_f5, hi_isO, kI_0, Option.bind_some, n35, n9, n19, n51, n59, nI_add, ix2, ix8, ix22, ix5, ↓reduceIte, lt_isO, pl_isO plA_139, hlp, c_isRef1 hin, n0_0, n1_0, c_isDead plA_139, stR_ne (show 139 ≠ 0 by omega), hdd, hd, bI_f, hg, el, l0, c_refuse, stR_stR, stR_eq, up_up]
      · have hi := hip S1 (by rw [hf 167 (by decide)]) (hf 170 (by decide))
        have hl2 := hlv S1 (hf 174 (by decide))
        rw [hok] at hi
        cases hd : bt (S 174 10) j with
        | true =>
          rw [hd] at hl2
          simp (disch := omega) only [gX11_give, fX11_give_0, fX11_give_1, fX11_give_4, fX11_give_7, fX11_give_10, fX11_give_14, fX11_give_17, fX11_give_20, fX11_give_25, fX11_give_31, fX11_give_34, fX11_give_37, fX11_give_46, fX11_give_52, fX11_give_54, fX11_give_57, fX11_give_58, fX11_give_59, fX11_give_62, fX11_give_77, fX11_give_88, fX11_give_89, mo_isO, kI_1, kB_99, mo_f19, mo_r19, mo_w19, kI_5, kI_0, Option.bind_some, n35, n9, n19, n51, n59, nI_add, ix2, ix8, ix22, ix5, ↓reduceIte, hanew, hi, bI_t, bI_f, Bool.not_true, hcin, hcw, n0_0, hl2]
          simp (disch := omega) only [gX11_give, fX11_give_0, fX11_give_1, fX11_give_4, fX11_give_7, fX11_give_10, fX11_give_14, fX11_give_17, fX11_give_20, fX11_give_25, fX11_give_31, fX11_give_34, fX11_give_37, fX11_give_46, fX11_give_48, fX11_give_52, fX11_give_54, fX11_give_57, fX11_give_58, fX11_give_59, fX11_give_62, fX11_give_77, fX11_give_88, fX11_give_89, mo_isO, kI_1, kB_99, mo_f19, mo_r19, mo_w19, kI_5, kI_0, Option.bind_some, n35, n9, n19, n51, n59, nI_add, ix2, ix8, ix22, ix5, ↓reduceIte, n50, c_no, stR_stR, stR_eq]
        | false =>
          have l0 : l = 0 := by
            rcases hq with z | z
            · rw [hd] at z; cases z
            · exact z
          rw [hd] at hl2
          simp (disch := omega) only [gX11_give, fX11_give_0, fX11_give_1, fX11_give_4, fX11_give_7, fX11_give_10, fX11_give_14, fX11_give_17, fX11_give_20, fX11_give_25, fX11_give_31, fX11_give_34, fX11_give_37, fX11_give_46, fX11_give_52, fX11_give_54, fX11_give_57, fX11_give_58, fX11_give_59, fX11_give_62, fX11_give_77, fX11_give_88, fX11_give_89, mo_isO, kI_1, kB_99, mo_f19, mo_r19, mo_w19, kI_5, kI_0, Option.bind_some, n35, n9, n19, n51, n59, nI_add, ix2, ix8, ix22, ix5, ↓reduceIte, hanew, hi, bI_t, bI_f, Bool.not_false, hcin, hcw, n0_0, n1_0, hl2, rw_r rwA_174, stR_ne (show 174 ≠ 167 by omega), hf 174 (by decide), el, l0]
          simp (disch := omega) only [gX11_give, fX11_give_0, fX11_give_1, fX11_give_4, fX11_give_7, fX11_give_10, fX11_give_14, fX11_give_17, fX11_give_20, fX11_give_25, fX11_give_31, fX11_give_34, fX11_give_37, fX11_give_46, fX11_give_48, fX11_give_52, fX11_give_54, fX11_give_57, fX11_give_58, fX11_give_59, fX11_give_62, fX11_give_77, fX11_give_88, fX11_give_89, mo_isO, kI_1, kB_99, mo_f19, mo_r19, mo_w19, kI_5, kI_0, Option.bind_some, n35, n9, n19, n51, n59, nI_add, ix2, ix8, ix22, ix5, ↓reduceIte, n50, c_no, stR_stR, stR_eq]
    · have hd : bt (S 174 10) j = false := by cases e : bt (S 174 10) j with
        | false => rfl
        | true => exact absurd (Or.inl e) hq
      have l0 : (nI l = 0) = False := by rw [nI_z (by omega)]; exact eq_false (fun z => hq (Or.inr z))
      have hmx : (if nI 0 < nI l - nI k then nI l - nI k else nI 0) = nI (l - k) ∧ ((nI k < nI l) = (k < l)) := by
        refine ⟨?_, lt_eq (by omega) (by omega)⟩
        by_cases z : k < l
        · have e : nI l - nI k = nI (l - k) := by
            have := nI_add (l - k) k
            rw [show l - k + k = l by omega] at this
            rw [← this, Int32.add_sub_cancel]
          rw [e, if_pos ((lt_iff (by omega) (by omega)).mpr (by omega))]
        · have z2 : ¬ nI 0 < nI l - nI k := by
            have h1 : l ≤ 300 := hl
            have : ∀ l, l < 100 → ∀ k, k < 100 → l ≤ k → ¬ nI 0 < nI l - nI k := by decide +kernel
            exact this l (by omega) k (by omega) (by omega)
          rw [if_neg z2, show l - k = 0 by omega]
      have hy := b9 rfl
      have hfd := hF rfl
      obtain ⟨u, x, w1, w2, w3, w4, w5, w6⟩ := hy.2.2.2.2.2.2.1
      obtain ⟨S1, k1, k2, k3, k4, k5⟩ := c_hkeep (S := stR S 0 (up (S 0) 11 (nI 0))) (J := J) (T := T) w1 w2 (by rw [stR_ne (by omega)]; exact w3) (by rw [stR_ne (by omega)]; exact w4)
      have f139 : S1 139 = S 139 := by rw [k5 139 (by simp; omega)]; rw [stR_ne (by omega)]
      have f0 : S1 0 = (up (S 0) 11 (nI 0)) := by rw [k5 0 (by simp; omega)]; rw [stR_eq]
      generalize hS2 : stR (stR S1 139 (up (S 139) j (nI (l - k)))) 0 (up (S1 0) 11 (nI 0)) = S2
      have g0 : S2 0 = up (S1 0) 11 (nI 0) := by rw [← hS2, stR_eq]
      have g139 : S2 139 = up (S 139) j (nI (l - k)) := by rw [← hS2, stR_ne (by omega), stR_eq]
      have gf : fr S1 S2 [0, 136, 139] := by rw [← hS2]; exact fr_st (fr_st (fr_rf S1 _) (by decide)) (by decide)
      have gS : ∀ c, c ∉ [0, 136, 139] → c ≠ 56 → c ≠ 58 + 4 * x → S2 c = S c := fun c z1 z2 z3 => by rw [gf c z1, k5 c (by simp; omega)]; rw [stR_ne (by simp at z1; omega)]
      have e167 : S2 167 = S 167 := gS 167 (by decide) (by omega) (by omega)
      have e170 : S2 170 = S 170 := gS 170 (by decide) (by omega) (by omega)
      have e174 : S2 174 = S 174 := gS 174 (by decide) (by omega) (by omega)
      have h14 : nw S2 14 = nI 1 := by rw [nw14, e167]; exact b7
      obtain ⟨S3, n1, n2, n3, n4⟩ := c_note (S := stR S2 167 (nw S2)) (J := J) (T := T) (u := u) w1 (by rw [stR_eq, nw_q S2 23 (by decide), e167]; exact w5)
      have i174 : S3 174 = S 174 := by rw [n4 174 (by decide), stR_ne (by omega)]; exact e174
      have hi := hip S2 (by rw [e167]) e170
      rw [hok] at hi
      have hl2 := hlv S2 e174
      rw [hd] at hl2
      refine ⟨nI (l - k), S2, stR S3 174 (up (S 174) j (nI (l - k))), J, J, T, ?_, ?_, act_fin (S0 := stR S 0 (up (S 0) 11 (nI 0))) (S1 := S1) (S2 := S2) (S3 := S3) h b7 hy hfd w1 w2 w5 w6 fr_1 (by rw [stR_eq, up_ne (by omega)]) k2 k3 k4 k5 gf (by rw [g0, up_eq]) (by rw [g0, up_ne (by omega)]) n2 n3 n4 (fr_st (fr_rf S3 _) (by decide)) (fun j _ _ => by rw [stR_ne (by omega)]) ?_ ?_ ?_⟩
      · rw [← hS2]
        simp (disch := omega) only [gX10_give, fX10_give_0, fX10_give_3, fX10_give_6, fX10_give_10, fX10_give_13, fX10_give_16, fX10_give_18, fX10_give_23, fX10_give_26, fX10_give_29, fX10_give_41, fX10_give_43, fX10_give_46, fX10_give_47, fX10_give_55, fX10_give_58, fX10_give_78, fX10_give_81, fX10_give_92, fX10_give_95, lt_isO, kI_1, kB_99, kI_n, lt_f8, pl_isO plA_139, pl_f0 plA_139, pl_r0 plA_139, pl_w0 plA_139, kI_5, lt_f5, hi_isO, kI_0, Option.bind_some, n35, n9, n19, n51, n59, nI_add, ix2, ix8, ix22, ix5, ↓reduceIte, lt_isO, hi_isO, pl_isO plA_139, hlp, c_isRef1 hin, n0_0, n1_0, c_isDead plA_139, stR_ne (show 139 ≠ 0 by omega), hdd, hd, bI_f, hg, el, l0, k1, f139, hmx.1, stS_R, stR_eq, up_eq, c_answer, stR_ne (show 0 ≠ 139 by omega)]
      · by_cases hkl : k < l
        · have hsb : nI l - nI k = nI (l - k) := by
            have := nI_add (l - k) k
            rw [show l - k + k = l by omega] at this
            rw [← this, Int32.add_sub_cancel]
          simp (disch := omega) only [gX11_give, fX11_give_0, fX11_give_1, fX11_give_4, fX11_give_7, fX11_give_10, fX11_give_14, fX11_give_17, fX11_give_20, fX11_give_25, fX11_give_31, fX11_give_34, fX11_give_37, fX11_give_46, fX11_give_52, fX11_give_54, fX11_give_57, fX11_give_58, fX11_give_59, fX11_give_62, fX11_give_77, fX11_give_88, fX11_give_89, mo_isO, kI_1, kB_99, mo_f19, mo_r19, mo_w19, kI_5, kI_0, Option.bind_some, n35, n9, n19, n51, n59, nI_add, ix2, ix8, ix22, ix5, ↓reduceIte, hanew, stR_eq, hi, bI_t, Bool.not_false, hcin, hcw, n0_0, n1_0, hl2, rw_r rwA_174, rw_w rwA_174, stR_ne (show 174 ≠ 167 by omega), e174, el, l0, n1, i174, hmx.2, hkl, hsb, stS_R, up_eq]
          simp (disch := omega) only [gX11_give, fX11_give_0, fX11_give_1, fX11_give_4, fX11_give_7, fX11_give_10, fX11_give_14, fX11_give_17, fX11_give_20, fX11_give_25, fX11_give_31, fX11_give_34, fX11_give_37, fX11_give_46, fX11_give_48, fX11_give_52, fX11_give_54, fX11_give_57, fX11_give_58, fX11_give_59, fX11_give_62, fX11_give_77, fX11_give_88, fX11_give_89, mo_isO, kI_1, kB_99, mo_f19, mo_r19, mo_w19, kI_5, kI_0, Option.bind_some, n35, n9, n19, n51, n59, nI_add, ix2, ix8, ix22, ix5, ↓reduceIte, hanew, stR_eq, hi, bI_t, Bool.not_false, hcin, hcw, n0_0, n1_0, hl2, rw_r rwA_174, rw_w rwA_174, stR_ne (show 174 ≠ 167 by omega), e174, el, l0, n1, i174, hmx.2, hkl, hsb, stS_R, up_eq]
        · have hsb : l - k = 0 := by omega
          simp (disch := omega) only [gX11_give, fX11_give_0, fX11_give_1, fX11_give_4, fX11_give_7, fX11_give_10, fX11_give_14, fX11_give_17, fX11_give_20, fX11_give_25, fX11_give_31, fX11_give_34, fX11_give_37, fX11_give_46, fX11_give_52, fX11_give_54, fX11_give_57, fX11_give_58, fX11_give_59, fX11_give_62, fX11_give_77, fX11_give_88, fX11_give_89, mo_isO, kI_1, kB_99, mo_f19, mo_r19, mo_w19, kI_5, kI_0, Option.bind_some, n35, n9, n19, n51, n59, nI_add, ix2, ix8, ix22, ix5, ↓reduceIte, hanew, stR_eq, hi, bI_t, Bool.not_false, hcin, hcw, n0_0, n1_0, hl2, rw_r rwA_174, rw_w rwA_174, stR_ne (show 174 ≠ 167 by omega), e174, el, l0, n1, i174, hmx.2, hkl, hsb, stS_R, up_eq]
          simp (disch := omega) only [gX11_give, fX11_give_0, fX11_give_1, fX11_give_4, fX11_give_7, fX11_give_10, fX11_give_14, fX11_give_17, fX11_give_20, fX11_give_25, fX11_give_31, fX11_give_34, fX11_give_37, fX11_give_46, fX11_give_48, fX11_give_52, fX11_give_54, fX11_give_57, fX11_give_58, fX11_give_59, fX11_give_62, fX11_give_77, fX11_give_88, fX11_give_89, mo_isO, kI_1, kB_99, mo_f19, mo_r19, mo_w19, kI_5, kI_0, Option.bind_some, n35, n9, n19, n51, n59, nI_add, ix2, ix8, ix22, ix5, ↓reduceIte, hanew, stR_eq, hi, bI_t, Bool.not_false, hcin, hcw, n0_0, n1_0, hl2, rw_r rwA_174, rw_w rwA_174, stR_ne (show 174 ≠ 167 by omega), e174, el, l0, n1, i174, hmx.2, hkl, hsb, stS_R, up_eq]
      · rw [g139, stR_eq]
        exact agR_up hy.2.2.2.2.1
      · rw [stR_eq]
        obtain ⟨i1, i2, i3, i4, i5, i6, i7, i8⟩ := hy.2.2.2.2.2.1
        exact ⟨fun p hp => by
          by_cases z : p = j
          · rw [z, up_eq]; exact ⟨l - k, by omega, rfl⟩
          · rw [up_ne z]; exact i1 p hp, fun p hp hl3 => by
          by_cases z : p = j
          · rw [z, up_eq]
            rw [z] at hl3 hp
            obtain ⟨l2, hl4, el4⟩ := i2 j hp (by rw [← lv_up (i := j) (by omega)]; exact hl3)
            rw [el, eq_eq (by omega) (by omega)] at el4
            exact ⟨l - k, by omega, rfl⟩
          · rw [up_ne z]; exact i2 p hp (by rw [← lv_up (i := j) (by omega)]; exact hl3), fun p hp => by rw [up_ne (by omega)]; exact i3 p hp, by rw [up_ne (by omega)]; exact i4, fun k hk => by rw [up_ne (by omega)]; exact i5 k hk, by rw [up_ne (by omega)]; exact i6, by rw [up_ne (by omega)]; exact i7, by rw [up_ne (by omega)]; exact i8⟩
      · rw [stR_eq]
        exact Fdd_up hfd.1 (by omega) b5
end ACT1

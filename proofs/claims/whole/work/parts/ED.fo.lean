-- WHO SHOULD FAST, asked
section FQ
variable {S : Mem} {J : MeJ} {T : Nat → Nat}
set_option maxRecDepth 100000 in
set_option maxHeartbeats 400000 in
theorem q_fastsFor (h : Rl S T) (p n : Int32) : bth (fun h => gX10_fastsFor 0 p n h) (fun h => gX11_fastsFor 167 p n h) S J T := by
  obtain ⟨ht, P, N, F, U, E, hB⟩ := Rl_bas h
  obtain ⟨b1, b2, b3, b4, b5, b6, b7, b8, b9, b10⟩ := id hB
  have hanew : ∀ S1 : Mem, gX11_anew 167 (hp S1 J T) = some (hp (stR S1 167 (nw S1)) J T) := fun S1 => c_anew
  have hip : ∀ S1, fr S S1 CL → gX11_isName 167 p (hp (stR S1 167 (nw S1)) J T) = some (bI (okB' p N), hp (stR S1 167 (nw S1)) J T) := fun S1 hf => m_isN (S1 := stR S1 167 (nw S1)) (J := J) (p := p) hB (by rw [stR_eq, nw14, hf 167 (by decide)]) (by rw [stR_ne (by omega)]; exact hf 170 (by decide))
  have hfw : ∀ S1, fr S S1 CL → gX11_fastWhy 167 p n (hp (stR S1 167 (nw S1)) J T) = some (why (okB' p N) (inB n (nI 1) (nI 3)), hp (stR S1 167 (nw S1)) J T) := fun S1 hf => by
    simp (disch := omega) only [gX11_fastWhy, fX11_fastWhy_0, fX11_fastWhy_3, fX11_fastWhy_6, fX11_fastWhy_9, fX11_fastWhy_12, fX11_fastWhy_15, mo_isO, kI_1, kI_3, Option.bind_some, n35, n9, n19, n51, n59, nI_add, ix2, ix8, ix22, ix5, ↓reduceIte, hip S1 hf, c_in, c_why]
  cases hno : (okB' p N && inB n (nI 1) (nI 3)) with
  | false =>
    refine bth_q h (v := m1) (tr := why (okB' p N) (inB n (nI 1) (nI 3))) (cq_no ?_) (fun S1 hf => mq_no (X := up (nw S1) 11 (why (okB' p N) (inB n (nI 1) (nI 3)))) ?_ up_eq (nw_p S1 _)) (why_4 _ _)
    · simp (disch := omega) only [gX10_fastsFor, fX10_fastsFor_0, fX10_fastsFor_3, fX10_fastsFor_6, fX10_fastsFor_9, fX10_fastsFor_12, fX10_fastsFor_15, fX10_fastsFor_17, fX10_fastsFor_31, fX10_fastsFor_34, fX10_fastsFor_38, fX10_fastsFor_41, fX10_fastsFor_44, fX10_fastsFor_54, fX10_fastsFor_56, lt_isO, kI_1, kI_3, kI_n, lt_f2, lt_f9, lt_f8, se_isO, se_g0, kB_o, Option.bind_some, n35, n9, n19, n51, n59, nI_add, ix2, ix8, ix22, ix5, ↓reduceIte, lt_isO, c_lacksName b1 b4, c_isRefused, hno, Bool.not_false, bI_t, n1_0]
    · simp (disch := omega) only [gX11_fastsFor, fX11_fastsFor_0, fX11_fastsFor_1, fX11_fastsFor_4, fX11_fastsFor_7, fX11_fastsFor_10, fX11_fastsFor_15, fX11_fastsFor_17, fX11_fastsFor_20, fX11_fastsFor_21, fX11_fastsFor_24, fX11_fastsFor_27, fX11_fastsFor_34, fX11_fastsFor_39, fX11_fastsFor_41, fX11_fastsFor_44, mo_isO, kB_o, Option.bind_some, n35, n9, n19, n51, n59, nI_add, ix2, ix8, ix22, ix5, ↓reduceIte, hanew, hfw S1 hf, why_ne hno, c_no, stR_stR, stR_eq]
  | true =>
    rw [Bool.and_eq_true] at hno
    obtain ⟨hok, hin⟩ := hno
    obtain rfl := ok_yesN hB hok
    obtain ⟨j, hj, rfl⟩ := okB_t (by omega) hok
    obtain ⟨k, hk, hk2, rfl⟩ := inB_t (by omega) (by omega) hin
    have hln : gX10_lacksName 0 (nI j) (hp S J T) = some (nI 0, hp S J T) := by rw [c_lacksName b1 b4, hok]; rfl
    have hy := b9 rfl
    generalize hSa : stR S 0 (up (S 0) 11 (nI 0)) = Sa
    have ha0 : Sa 0 = up (S 0) 11 (nI 0) := by rw [← hSa, stR_eq]
    have hae : ∀ c, c ≠ 0 → Sa c = S c := fun c z => by rw [← hSa, stR_ne z]
    obtain ⟨S', B, k1, k2', k3, k4, k5⟩ := c_seekN (S := S) (J := J) (T := T) (K := j) (n := k) b1 b2 hy hk2 (by omega) (by omega) (S0 := Sa) (hae _ (by omega)) (hae 139 (by omega))
    have f0 : S' 0 = up (S 0) 11 (nI 0) := by rw [k5 0 (by decide), ha0]
    have hfo := c_found (S := S') (J := J) (T := T) k2'
    have hfr : fr S S' CL := fr_tr (fun c hc => hae c (fun z => hc (by rw [z]; decide))) (fr_mo k5 (by decide))
    have hm : ∀ S1, fr S S1 CL → ∃ S2, gX11_fastsOf 167 (nI j) (nI k) (hp (stR S1 167 (nw S1)) J T) = some (oi B, hp S2 J T) ∧ fr S1 S2 ML ∧ S2 167 11 = nI 0 ∧ ∀ j, j ∈ pM → S2 167 j = S1 167 j := fun S1 hf => by
      obtain ⟨S2, B2, a1, a2, a3, a4⟩ := c_fastsOf (S := stR S1 167 (nw S1)) (J := J) (T := T) (K := j) (n := k) hy.1.1 hy.1.2.2.1 hy.1.2.2.2.1 hy.2.2.2.2.2.1 hk2 (by omega) (by omega) (by rw [stR_ne (by omega)]; exact hf 170 (by decide)) (by rw [stR_ne (by omega)]; exact hf 174 (by decide))
      have e := upd_uni (fun s hs => good_lt hk2 hs) k4 a3
      obtain ⟨q1, q2, q3⟩ := mfr_q a4
      exact ⟨S2, by rw [e]; exact a1, q1, q2, q3⟩
    have hwz : why (okB' (nI j) N) (inB (nI k) (nI 1) (nI 3)) = nI 0 := by rw [hok, hin]; rfl
    have hc : gX10_fastsFor 0 (nI j) (nI k) (hp S J T) = fX10_fastsFor_41 0 (bI B.isSome) (hp S' J T) := by
      unfold gX10_fastsFor fX10_fastsFor_0 fX10_fastsFor_3
      rw [lt_isO, Option.bind_some, hln, Option.bind_some]
      unfold fX10_fastsFor_6 fX10_fastsFor_9
      rw [lt_isO, Option.bind_some, kI_3, kI_1, c_isRef1 hin, Option.bind_some]
      unfold fX10_fastsFor_12
      rw [if_pos (show nI 0 = 0 from rfl), hSa]
      unfold fX10_fastsFor_17
      rw [lt_f2, Option.bind_some, lt_f9, Option.bind_some, lt_f8, Option.bind_some]
      unfold fX10_fastsFor_31
      rw [se_isO, Option.bind_some, k1, Option.bind_some]
      unfold fX10_fastsFor_34
      rw [lt_f2, Option.bind_some]
      unfold fX10_fastsFor_38
      rw [se_isO, Option.bind_some, hfo, Option.bind_some]
    have hmf : ∀ S1, fr S S1 CL → gX11_fastsFor 167 (nI j) (nI k) (hp S1 J T) = fX11_fastsFor_21 167 (nI j) (nI k) (hp (stR S1 167 (nw S1)) J T) := fun S1 hf => by
      unfold gX11_fastsFor fX11_fastsFor_0 fX11_fastsFor_1
      rw [mo_isO, Option.bind_some, hanew, Option.bind_some]
      unfold fX11_fastsFor_4 fX11_fastsFor_7
      rw [mo_isO, Option.bind_some, hfw S1 hf, Option.bind_some]
      unfold fX11_fastsFor_10
      rw [hwz, if_pos (show nI 0 = 0 from rfl)]
    cases B with
    | none =>
      refine bth_q h (v := oi none) (tr := nI 0) ⟨S', ?_, hfr, by rw [f0, up_eq], by rw [f0, up_ne (by omega)]⟩ (fun S1 hf => ?_) n0_4
      · refine Eq.trans hc ?_
        unfold fX10_fastsFor_41
        rw [if_pos (show bI (Option.isSome (none : Option Nat)) = 0 from rfl)]
        unfold fX10_fastsFor_54 fX10_fastsFor_56
        rw [kB_o]
      · obtain ⟨S2, w1, w2, w3, w4⟩ := hm S1 hf
        refine ⟨S2, Eq.trans (hmf S1 hf) ?_, w2, w3, w4⟩
        unfold fX11_fastsFor_21 fX11_fastsFor_24
        rw [mo_isO, Option.bind_some, w1, Option.bind_some]
        unfold fX11_fastsFor_27
        rw [if_pos on_lt0]
        unfold fX11_fastsFor_34 fX11_fastsFor_44
        rw [kB_o]
    | some i =>
      have hi := k3 i rfl
      have hpi := pc_le i
      refine bth_q h (v := nI (pc i)) (tr := nI 0) ⟨S', ?_, hfr, by rw [f0, up_eq], by rw [f0, up_ne (by omega)]⟩ (fun S1 hf => ?_) n0_4
      · refine Eq.trans hc ?_
        unfold fX10_fastsFor_41
        rw [Option.isSome_some, if_neg (show ¬ bI true = 0 by decide)]
        unfold fX10_fastsFor_44
        rw [lt_f2, Option.bind_some, se_g0, Option.bind_some, k2'.1]
        rfl
      · obtain ⟨S2, w1, w2, w3, w4⟩ := hm S1 hf
        rw [oi_some] at w1
        refine ⟨S2, Eq.trans (hmf S1 hf) ?_, w2, w3, w4⟩
        unfold fX11_fastsFor_21 fX11_fastsFor_24
        rw [mo_isO, Option.bind_some, w1, Option.bind_some]
        unfold fX11_fastsFor_27
        rw [if_neg (nl15 (by omega))]
        unfold fX11_fastsFor_39 fX11_fastsFor_41
        rw [c_ones, Option.bind_some]
        rfl
set_option maxRecDepth 100000 in
set_option maxHeartbeats 400000 in
theorem q_fastsAt (h : Rl S T) (p n : Int32) : bth (fun h => gX10_fastsAt 0 p n h) (fun h => gX11_fastsAt 167 p n h) S J T := by
  obtain ⟨ht, P, N, F, U, E, hB⟩ := Rl_bas h
  obtain ⟨b1, b2, b3, b4, b5, b6, b7, b8, b9, b10⟩ := id hB
  have hanew : ∀ S1 : Mem, gX11_anew 167 (hp S1 J T) = some (hp (stR S1 167 (nw S1)) J T) := fun S1 => c_anew
  have hip : ∀ S1, fr S S1 CL → gX11_isName 167 p (hp (stR S1 167 (nw S1)) J T) = some (bI (okB' p N), hp (stR S1 167 (nw S1)) J T) := fun S1 hf => m_isN (S1 := stR S1 167 (nw S1)) (J := J) (p := p) hB (by rw [stR_eq, nw14, hf 167 (by decide)]) (by rw [stR_ne (by omega)]; exact hf 170 (by decide))
  have hfw : ∀ S1, fr S S1 CL → gX11_fastWhy 167 p n (hp (stR S1 167 (nw S1)) J T) = some (why (okB' p N) (inB n (nI 1) (nI 3)), hp (stR S1 167 (nw S1)) J T) := fun S1 hf => by
    simp (disch := omega) only [gX11_fastWhy, fX11_fastWhy_0, fX11_fastWhy_3, fX11_fastWhy_6, fX11_fastWhy_9, fX11_fastWhy_12, fX11_fastWhy_15, mo_isO, kI_1, kI_3, Option.bind_some, n35, n9, n19, n51, n59, nI_add, ix2, ix8, ix22, ix5, ↓reduceIte, hip S1 hf, c_in, c_why]
  cases hno : (okB' p N && inB n (nI 1) (nI 3)) with
  | false =>
    refine bth_q h (v := m1) (tr := why (okB' p N) (inB n (nI 1) (nI 3))) (cq_no ?_) (fun S1 hf => mq_no (X := up (nw S1) 11 (why (okB' p N) (inB n (nI 1) (nI 3)))) ?_ up_eq (nw_p S1 _)) (why_4 _ _)
    · simp (disch := omega) only [gX10_fastsAt, fX10_fastsAt_0, fX10_fastsAt_3, fX10_fastsAt_6, fX10_fastsAt_9, fX10_fastsAt_12, fX10_fastsAt_15, fX10_fastsAt_17, fX10_fastsAt_31, fX10_fastsAt_34, fX10_fastsAt_38, fX10_fastsAt_41, fX10_fastsAt_44, fX10_fastsAt_54, fX10_fastsAt_56, lt_isO, kI_1, kI_3, kI_n, lt_f2, lt_f9, lt_f8, se_isO, se_g1, kB_o, Option.bind_some, n35, n9, n19, n51, n59, nI_add, ix2, ix8, ix22, ix5, ↓reduceIte, lt_isO, c_lacksName b1 b4, c_isRefused, hno, Bool.not_false, bI_t, n1_0]
    · simp (disch := omega) only [gX11_fastsAt, fX11_fastsAt_0, fX11_fastsAt_1, fX11_fastsAt_4, fX11_fastsAt_7, fX11_fastsAt_10, fX11_fastsAt_15, fX11_fastsAt_17, fX11_fastsAt_20, fX11_fastsAt_23, fX11_fastsAt_26, fX11_fastsAt_29, mo_isO, Option.bind_some, n35, n9, n19, n51, n59, nI_add, ix2, ix8, ix22, ix5, ↓reduceIte, hanew, hfw S1 hf, why_ne hno, c_no, stR_stR, stR_eq]
  | true =>
    rw [Bool.and_eq_true] at hno
    obtain ⟨hok, hin⟩ := hno
    obtain rfl := ok_yesN hB hok
    obtain ⟨j, hj, rfl⟩ := okB_t (by omega) hok
    obtain ⟨k, hk, hk2, rfl⟩ := inB_t (by omega) (by omega) hin
    have hln : gX10_lacksName 0 (nI j) (hp S J T) = some (nI 0, hp S J T) := by rw [c_lacksName b1 b4, hok]; rfl
    have hy := b9 rfl
    generalize hSa : stR S 0 (up (S 0) 11 (nI 0)) = Sa
    have ha0 : Sa 0 = up (S 0) 11 (nI 0) := by rw [← hSa, stR_eq]
    have hae : ∀ c, c ≠ 0 → Sa c = S c := fun c z => by rw [← hSa, stR_ne z]
    obtain ⟨S', B, k1, k2', k3, k4, k5⟩ := c_seekN (S := S) (J := J) (T := T) (K := j) (n := k) b1 b2 hy hk2 (by omega) (by omega) (S0 := Sa) (hae _ (by omega)) (hae 139 (by omega))
    have f0 : S' 0 = up (S 0) 11 (nI 0) := by rw [k5 0 (by decide), ha0]
    have hfo := c_found (S := S') (J := J) (T := T) k2'
    have hfr : fr S S' CL := fr_tr (fun c hc => hae c (fun z => hc (by rw [z]; decide))) (fr_mo k5 (by decide))
    have hm : ∀ S1, fr S S1 CL → ∃ S2, gX11_fastsOf 167 (nI j) (nI k) (hp (stR S1 167 (nw S1)) J T) = some (oi B, hp S2 J T) ∧ fr S1 S2 ML ∧ S2 167 11 = nI 0 ∧ ∀ j, j ∈ pM → S2 167 j = S1 167 j := fun S1 hf => by
      obtain ⟨S2, B2, a1, a2, a3, a4⟩ := c_fastsOf (S := stR S1 167 (nw S1)) (J := J) (T := T) (K := j) (n := k) hy.1.1 hy.1.2.2.1 hy.1.2.2.2.1 hy.2.2.2.2.2.1 hk2 (by omega) (by omega) (by rw [stR_ne (by omega)]; exact hf 170 (by decide)) (by rw [stR_ne (by omega)]; exact hf 174 (by decide))
      have e := upd_uni (fun s hs => good_lt hk2 hs) k4 a3
      obtain ⟨q1, q2, q3⟩ := mfr_q a4
      exact ⟨S2, by rw [e]; exact a1, q1, q2, q3⟩
    have hwz : why (okB' (nI j) N) (inB (nI k) (nI 1) (nI 3)) = nI 0 := by rw [hok, hin]; rfl
    have hc : gX10_fastsAt 0 (nI j) (nI k) (hp S J T) = fX10_fastsAt_41 0 (bI B.isSome) (hp S' J T) := by
      unfold gX10_fastsAt fX10_fastsAt_0 fX10_fastsAt_3
      rw [lt_isO, Option.bind_some, hln, Option.bind_some]
      unfold fX10_fastsAt_6 fX10_fastsAt_9
      rw [lt_isO, Option.bind_some, kI_3, kI_1, c_isRef1 hin, Option.bind_some]
      unfold fX10_fastsAt_12
      rw [if_pos (show nI 0 = 0 from rfl), hSa]
      unfold fX10_fastsAt_17
      rw [lt_f2, Option.bind_some, lt_f9, Option.bind_some, lt_f8, Option.bind_some]
      unfold fX10_fastsAt_31
      rw [se_isO, Option.bind_some, k1, Option.bind_some]
      unfold fX10_fastsAt_34
      rw [lt_f2, Option.bind_some]
      unfold fX10_fastsAt_38
      rw [se_isO, Option.bind_some, hfo, Option.bind_some]
    have hmf : ∀ S1, fr S S1 CL → gX11_fastsAt 167 (nI j) (nI k) (hp S1 J T) = fX11_fastsAt_23 167 (nI j) (nI k) (hp (stR S1 167 (nw S1)) J T) := fun S1 hf => by
      unfold gX11_fastsAt fX11_fastsAt_0 fX11_fastsAt_1
      rw [mo_isO, Option.bind_some, hanew, Option.bind_some]
      unfold fX11_fastsAt_4 fX11_fastsAt_7
      rw [mo_isO, Option.bind_some, hfw S1 hf, Option.bind_some]
      unfold fX11_fastsAt_10
      rw [hwz, if_pos (show nI 0 = 0 from rfl)]
    cases B with
    | none =>
      refine bth_q h (v := oi none) (tr := nI 0) ⟨S', ?_, hfr, by rw [f0, up_eq], by rw [f0, up_ne (by omega)]⟩ (fun S1 hf => ?_) n0_4
      · refine Eq.trans hc ?_
        unfold fX10_fastsAt_41
        rw [if_pos (show bI (Option.isSome (none : Option Nat)) = 0 from rfl)]
        unfold fX10_fastsAt_54 fX10_fastsAt_56
        rw [kB_o]
      · obtain ⟨S2, w1, w2, w3, w4⟩ := hm S1 hf
        refine ⟨S2, Eq.trans (hmf S1 hf) ?_, w2, w3, w4⟩
        unfold fX11_fastsAt_23 fX11_fastsAt_26
        rw [mo_isO, Option.bind_some, w1, Option.bind_some]
        rfl
    | some i =>
      have hi := k3 i rfl
      have hpi := pc_le i
      refine bth_q h (v := nI i) (tr := nI 0) ⟨S', ?_, hfr, by rw [f0, up_eq], by rw [f0, up_ne (by omega)]⟩ (fun S1 hf => ?_) n0_4
      · refine Eq.trans hc ?_
        unfold fX10_fastsAt_41
        rw [Option.isSome_some, if_neg (show ¬ bI true = 0 by decide)]
        unfold fX10_fastsAt_44
        rw [lt_f2, Option.bind_some, se_g1, Option.bind_some, k2'.2]
        rfl
      · obtain ⟨S2, w1, w2, w3, w4⟩ := hm S1 hf
        rw [oi_some] at w1
        refine ⟨S2, Eq.trans (hmf S1 hf) ?_, w2, w3, w4⟩
        unfold fX11_fastsAt_23 fX11_fastsAt_26
        rw [mo_isO, Option.bind_some, w1, Option.bind_some]
        rfl
end FQ

-- QUESTIONS WITHIN DAYS
section WQ
variable {S S0 S1 : Mem} {J : MeJ} {T : Nat → Nat} {t P N F U E D : Nat}
set_option maxRecDepth 100000 in
set_option maxHeartbeats 400000 in
theorem l_within {r : Row} (hT : TbS r P N) (hF : r 5 = nI F) (hF8 : F ≤ 8) {R : Row} (hI : Inv R P N D) {n : Nat} (hD : D + n ≤ 3000) (hn : n ≤ 60) {pv kv : Option Nat} (hpv : ∀ j, pv = some j → j < 5) (hkv : ∀ j, kv = some j → j < 8) : ∀ (m i f : Nat) (S1 : Mem), i + m = n → m < f → S1 170 = r → wst S1 r P N F R pv kv i → ∃ S', lX11_within_33 f 167 (pI' pv) (pI' kv) (nI n) (nI (i + 1)) (hp S1 J T) = some (hp S' J T) ∧ wst S' r P N F R pv kv n ∧ wfm S1 S' := by
  intro m
  induction m with
  | zero =>
    intro i f S1 hk hf h1 h2
    obtain ⟨f, rfl⟩ : ∃ g, f = g + 1 := ⟨f - 1, by omega⟩
    obtain rfl : i = n := by omega
    refine ⟨S1, ?_, h2, fr_rf _ _, fun _ _ => rfl⟩
    unfold lX11_within_33
    simp (disch := omega) only [fX11_within_33, fX11_within_163, lt_eq, show i < i + 1 by omega, ↓reduceIte]
  | succ m ih =>
    intro i f S1 hk hf h1 h2
    obtain ⟨f, rfl⟩ : ∃ g, f = g + 1 := ⟨f - 1, by omega⟩
    obtain ⟨S2, g1, g2, g3⟩ := w_step (S := S1) (J := J) (T := T) h1 hT hF hF8 hI (i := i) (n := n) (by omega) (by omega) hn hpv hkv h2 (lX11_within_33 f)
    obtain ⟨S3, k1, k2, k3⟩ := ih (i + 1) f S2 (by omega) (by omega) ((g3.1 170 (by simp)).trans h1) g2
    refine ⟨S3, ?_, k2, wfm_tr g3 k3⟩
    unfold lX11_within_33
    rw [g1]
    exact k1
set_option maxRecDepth 100000 in
set_option maxHeartbeats 400000 in
theorem fdN_ag {r R Q : Row} (h : agR R Q P N) (hP5 : P ≤ 5) (kv : Option Nat) : ∀ i, fdN r P N F R kv i = fdN r P N F Q kv i := by
  intro i
  induction i with
  | zero => rfl
  | succ i ih => unfold fdN; rw [ih, ag_dWt (agT_rf r P N F) (dyN_ag (agT_rf r P N F) h hP5 i)]
set_option maxRecDepth 100000 in
set_option maxHeartbeats 400000 in
theorem y_within (hy : Yes S t P N F U E) (h0r : S0 170 = S 170) (h0s : S0 174 = S 174) {pv kv : Option Nat} (hpv : ∀ j, pv = some j → j < 5) (hkv : ∀ j, kv = some j → j < 8) {n : Nat} (hn : n ≤ 60) : ∃ S', gX11_within 167 (pI' pv) (pI' kv) (nI n) (hp S0 J T) = some (hp S' J T) ∧ (S' 167 29 = aP (S 170) P N F (S 174) pv n ∧ S' 167 30 = bP (S 170) P N F (S 174) pv n ∧ S' 167 31 = dN' (S 170) P N F (S 170 0) (S 174) n ∧ S' 167 32 = wN (S 170) P N F (S 170 0) (S 174) n ∧ S' 167 33 = oi (fdN (S 170) P N F (S 174) kv n)) ∧ wfm S0 S' := by
  obtain ⟨y1, y2, y3, y4, y5, y6, y7, y8⟩ := hy
  have hP5 := y1.1.2.1
  have hR : agR (cpR (S0 174) (S0 175) 22) (S 174) P N := agR_cp y1.1.2.1 y1.1.2.2.2.1 (by rw [h0s]; exact agR_rf _ _ _)
  generalize hRR : cpR (S0 174) (S0 175) 22 = R at hR
  have hw0 : wst (stR (stR S0 175 R) 167 (up (up (up (up (up (S0 167) 29 (nI 0)) 30 (nI 0)) 31 (nI 0)) 32 (nI 0)) 33 (oi none))) (S 170) P N F R pv kv 0 := by
    refine ⟨⟨?_, fun i hi => by omega⟩, ?_, ?_, ?_, ?_, ?_⟩
    · rw [stR_ne (by omega), stR_eq]; rfl
    · rw [stR_eq, up_ne (by omega), up_ne (by omega), up_ne (by omega), up_ne (by omega), up_eq]; cases pv <;> rfl
    · rw [stR_eq, up_ne (by omega), up_ne (by omega), up_ne (by omega), up_eq]; cases pv <;> rfl
    · rw [stR_eq, up_ne (by omega), up_ne (by omega), up_eq]; rfl
    · rw [stR_eq, up_ne (by omega), up_eq]; rfl
    · rw [stR_eq, up_eq]; rfl
  obtain ⟨S', k1, ⟨-, k2, k3, k4, k5, k6⟩, k7⟩ := l_within (J := J) (T := T) y1.1 y1.2.2.1 y1.2.2.2.1 (Inv_ag hR y6) (n := n) (by omega) hn hpv hkv n 0 FU _ (by omega) (FU_lt (by omega)) (by rw [stR_ne (by omega), stR_ne (by omega)]; exact h0r) hw0
  have hr := agT_rf (S 170) P N F
  refine ⟨S', ?_, ⟨?_, ?_, ?_, ?_, ?_⟩, wfm_tr ⟨fr_st (fr_st (fr_rf S0 _) (by simp)) (by simp), fun j hj => by rw [stR_eq, up_ne (by omega), up_ne (by omega), up_ne (by omega), up_ne (by omega), up_ne (by omega)]⟩ k7⟩
  · simp (disch := omega) only [gX11_within, fX11_within_0, fX11_within_1, fX11_within_4, mo_isO, Option.bind_some, c_begin, hRR, mo_p29, mo_p30, mo_p31, mo_p32, mo_p33, kB_o, kI_0, kI_1, stS_R, stR_eq, stR_stR, stR_ne (show 167 ≠ 175 by omega)]
    exact k1
  · rw [k2]
    cases pv with
    | none => rfl
    | some j => exact aN_ag hr hR hP5 j n
  · rw [k3]
    cases pv with
    | none => rfl
    | some j => exact bN_ag hr hR hP5 j n
  · rw [k4, dN_ag hr hR hP5]
  · rw [k5, wN_ag hr hR hP5]
  · rw [k6, fdN_ag hR hP5]
set_option maxRecDepth 100000 in
set_option maxHeartbeats 400000 in
theorem wfm_q {S S' : Mem} (h : wfm (stR S 167 (nw S)) S') : fr S S' ML ∧ S' 167 11 = nI 0 ∧ ∀ j, j ∈ pM → S' 167 j = S 167 j := by
  refine ⟨fr_tr (fr_st (fr_rf S _) (by decide)) (fr_mo h.1 (by decide)), ?_, fun j hj => ?_⟩
  · rw [h.2 11 (by omega), stR_eq]
    exact up_eq
  · have hj25 : j < 25 := by
      have : ∀ j, j ∈ pM → j < 25 := by decide
      exact this j hj
    rw [h.2 j hj25, stR_eq]
    exact nw_q S j hj
end WQ
section Q6
variable {S S1 : Mem} {J : MeJ} {T : Nat → Nat} {t a w P N F U E : Nat} {ht : Bool}
set_option maxRecDepth 100000 in
set_option maxHeartbeats 400000 in
theorem qc_named_no (hB : Bas S T ht P N F U E) {n : Int32} (hno : (ht && inB n (nI 0) (nI 60)) = false) : cq (fun h => gX10_named 0 n h) S J T m1 (why ht (inB n (nI 0) (nI 60))) := by
  obtain ⟨b1, b2, b3, b4, b5, b6, b7, b8, b9, b10⟩ := hB
  refine cq_no ?_
  simp (disch := omega) only [gX10_named, fX10_named_0, fX10_named_2, fX10_named_5, fX10_named_9, fX10_named_12, fX10_named_15, fX10_named_17, fX10_named_30, fX10_named_33, lt_isO, kI_0, kB_60, kI_n, lt_f1, lt_f9, lt_f8, co_isO, co_g4, Option.bind_some, n35, n9, n19, n51, n59, nI_add, ix2, ix8, ix22, ix5, ↓reduceIte, lt_isO, c_lacksTable b1 b3 b5, b8, c_isRefused, hno, Bool.not_false, bI_t, n1_0]
set_option maxRecDepth 100000 in
set_option maxHeartbeats 400000 in
theorem qc_named (hB : Bas S T true P N F U E) {k : Nat} (hk : 0 ≤ k) (hk2 : k ≤ 60) {V : Int32} (hV : ∀ S', crM S' (S 170) P N F (S 174) k → S' 7 4 = V) : cq (fun h => gX10_named 0 (nI k) h) S J T V (nI 0) := by
  have hlk := c_lack1 (J := J) hB
  obtain ⟨b1, b2, b3, b4, b5, b6, b7, b8, b9, b10⟩ := hB
  obtain ⟨S', k1, k2, k3⟩ := y_walk (S := S) (S0 := stR S 0 (up (S 0) 11 (nI 0))) (J := J) (T := T) b1 b2 (b9 rfl) (by rw [stR_ne (by omega)]) (by rw [stR_ne (by omega)]) hk2
  have f0 : S' 0 = up (S 0) 11 (nI 0) := by rw [k3 0 (by decide), stR_eq]
  have ft : S' (T 0) = S (T 0) := by rw [k3 (T 0) (by simp; omega), stR_ne (by omega)]
  refine ⟨S', ?_, fr_CL (fr_st (fr_rf S _) (by decide)) k3, by rw [f0, up_eq], by rw [f0, up_ne (by omega)]⟩
  rw [← hV S' k2]
  simp (disch := omega) only [gX10_named, fX10_named_0, fX10_named_2, fX10_named_5, fX10_named_9, fX10_named_12, fX10_named_15, fX10_named_17, fX10_named_30, fX10_named_33, lt_isO, kI_0, kB_60, kI_n, lt_f1, lt_f9, lt_f8, co_isO, co_g4, Option.bind_some, n35, n9, n19, n51, n59, nI_add, ix2, ix8, ix22, ix5, ↓reduceIte, lt_isO, hlk, c_isRef1 (inB_n hk hk2 (by omega)), n0_0, lt_f1, lt_f8, lt_f9, co_isO, k1, co_f0, co_f1, co_g4, co_g5, ml_g0 mlA_12, ml_g1 mlA_12, pl_g5 plA_8, pl_isO plA_8, c_living plA_8 b1, c_hungriest plA_8 b1 (show S' (T 0) 3 = nI P by rw [ft]; exact b3) b5, ft, b3]
set_option maxRecDepth 100000 in
set_option maxHeartbeats 400000 in
theorem qm_named_no (h14 : S 167 14 = bI ht) {n : Int32} (hno : (ht && inB n (nI 0) (nI 60)) = false) : mq (fun h => gX11_named 167 n h) S J T m1 (why ht (inB n (nI 0) (nI 60))) := by
  refine mq_no (X := up (nw S) 11 (why ht (inB n (nI 0) (nI 60)))) ?_ up_eq (nw_p S _)
  simp (disch := omega) only [gX11_named, fX11_named_0, fX11_named_1, fX11_named_4, fX11_named_11, fX11_named_14, fX11_named_19, fX11_named_21, fX11_named_24, fX11_named_25, fX11_named_29, fX11_named_32, mo_isO, mo_g14, kI_0, kI_n, mo_g31, Option.bind_some, n35, n9, n19, n51, n59, nI_add, ix2, ix8, ix22, ix5, ↓reduceIte, c_anew, stR_eq, up_ne, h14, c_aheadWhy, why_ne hno, c_no, stR_stR, nw]
set_option maxRecDepth 100000 in
set_option maxHeartbeats 400000 in
theorem q_named (h : Rl S T) (n : Int32) : bth (fun h => gX10_named 0 n h) (fun h => gX11_named 167 n h) S J T := by
  obtain ⟨ht, P, N, F, U, E, hB⟩ := Rl_bas h
  cases hno : (ht && inB n (nI 0) (nI 60)) with
  | false => exact bth_q h (qc_named_no hB hno) (fun S1 hf => qm_named_no (by rw [hf 167 (by decide)]; exact hB.2.2.2.2.2.2.1) hno) (why_4 _ _)
  | true =>
    rw [Bool.and_eq_true] at hno
    obtain ⟨rfl, hin⟩ := hno
    obtain ⟨k, hk, hk2, rfl⟩ := inB_t (by omega) (by omega) hin
    have hy := hB.2.2.2.2.2.2.2.2.1 rfl
    have hP5 := hB.2.2.2.2.1
    have hr3 : S 170 3 = nI P := hy.1.1.1
    refine bth_q h (qc_named hB hk hk2 (V := dN' (S 170) P N F (S 170 0) (S 174) k) (fun S' hc => hc.2.2.2.2.1)) (fun S1 hf => ?_) n0_4
    have h167 : S1 167 = S 167 := hf 167 (by decide)
    obtain ⟨S2, k1, k2, k3⟩ := y_within (pv := none) (kv := none) (S := S) (S0 := stR S1 167 (nw S1)) (J := J) (T := T) hy (by rw [stR_ne (by omega)]; exact hf 170 (by decide)) (by rw [stR_ne (by omega)]; exact hf 174 (by decide)) (fun j hj => by cases hj) (fun j hj => by cases hj) hk2
    rw [pI_n] at k1
    obtain ⟨q1, q2, q3⟩ := wfm_q k3
    have h170 : S2 170 = S 170 := by rw [q1 170 (by decide)]; exact hf 170 (by decide)
    refine ⟨S2, ?_, q1, q2, q3⟩
    have h14 : nw S1 14 = nI 1 := by unfold nw; rw [up_ne (by omega), up_ne (by omega), h167]; exact hB.2.2.2.2.2.2.1
    have hanew : gX11_anew 167 (hp S1 J T) = some (hp (stR S1 167 (nw S1)) J T) := c_anew
    have hho : gX11_hungriestOf 167 175 (nI 0) (hp S2 J T) = some (oi (hu (S2 175) P), hp S2 J T) := c_hungriestOf (J := J) (T := T) rwA_175 (show S2 170 3 = nI P by rw [h170]; exact hr3) hP5 false
    have hval : S2 167 31 = dN' (S 170) P N F (S 170 0) (S 174) k := k2.2.2.1
    rw [← hval]
    simp (disch := omega) only [gX11_named, fX11_named_0, fX11_named_1, fX11_named_4, fX11_named_11, fX11_named_14, fX11_named_19, fX11_named_21, fX11_named_24, fX11_named_25, fX11_named_29, fX11_named_32, mo_isO, mo_g14, kI_0, kI_n, mo_g31, Option.bind_some, n35, n9, n19, n51, n59, nI_add, ix2, ix8, ix22, ix5, ↓reduceIte, hanew, stR_eq, h14, c_ahead1 (inB_n hk hk2 (by omega)), n0_0, k1, mo_g29, mo_g30, mo_g31, mo_g32, mo_g33, mo_g25, mo_g26, mo_f20, rw_r rwA_175, c_everybody, hho, h170, hr3, kI_n, kB_12, kB_10, Bool.false_eq_true, if_false]
set_option maxRecDepth 100000 in
set_option maxHeartbeats 400000 in
theorem qc_worthIn_no (hB : Bas S T ht P N F U E) {n : Int32} (hno : (ht && inB n (nI 0) (nI 60)) = false) : cq (fun h => gX10_worthIn 0 n h) S J T m1 (why ht (inB n (nI 0) (nI 60))) := by
  obtain ⟨b1, b2, b3, b4, b5, b6, b7, b8, b9, b10⟩ := hB
  refine cq_no ?_
  simp (disch := omega) only [gX10_worthIn, fX10_worthIn_0, fX10_worthIn_2, fX10_worthIn_5, fX10_worthIn_9, fX10_worthIn_12, fX10_worthIn_15, fX10_worthIn_17, fX10_worthIn_30, fX10_worthIn_33, lt_isO, kI_0, kB_60, kI_n, lt_f1, lt_f9, lt_f8, co_isO, co_g5, Option.bind_some, n35, n9, n19, n51, n59, nI_add, ix2, ix8, ix22, ix5, ↓reduceIte, lt_isO, c_lacksTable b1 b3 b5, b8, c_isRefused, hno, Bool.not_false, bI_t, n1_0]
set_option maxRecDepth 100000 in
set_option maxHeartbeats 400000 in
theorem qc_worthIn (hB : Bas S T true P N F U E) {k : Nat} (hk : 0 ≤ k) (hk2 : k ≤ 60) {V : Int32} (hV : ∀ S', crM S' (S 170) P N F (S 174) k → S' 7 5 = V) : cq (fun h => gX10_worthIn 0 (nI k) h) S J T V (nI 0) := by
  have hlk := c_lack1 (J := J) hB
  obtain ⟨b1, b2, b3, b4, b5, b6, b7, b8, b9, b10⟩ := hB
  obtain ⟨S', k1, k2, k3⟩ := y_walk (S := S) (S0 := stR S 0 (up (S 0) 11 (nI 0))) (J := J) (T := T) b1 b2 (b9 rfl) (by rw [stR_ne (by omega)]) (by rw [stR_ne (by omega)]) hk2
  have f0 : S' 0 = up (S 0) 11 (nI 0) := by rw [k3 0 (by decide), stR_eq]
  have ft : S' (T 0) = S (T 0) := by rw [k3 (T 0) (by simp; omega), stR_ne (by omega)]
  refine ⟨S', ?_, fr_CL (fr_st (fr_rf S _) (by decide)) k3, by rw [f0, up_eq], by rw [f0, up_ne (by omega)]⟩
  rw [← hV S' k2]
  simp (disch := omega) only [gX10_worthIn, fX10_worthIn_0, fX10_worthIn_2, fX10_worthIn_5, fX10_worthIn_9, fX10_worthIn_12, fX10_worthIn_15, fX10_worthIn_17, fX10_worthIn_30, fX10_worthIn_33, lt_isO, kI_0, kB_60, kI_n, lt_f1, lt_f9, lt_f8, co_isO, co_g5, Option.bind_some, n35, n9, n19, n51, n59, nI_add, ix2, ix8, ix22, ix5, ↓reduceIte, lt_isO, hlk, c_isRef1 (inB_n hk hk2 (by omega)), n0_0, lt_f1, lt_f8, lt_f9, co_isO, k1, co_f0, co_f1, co_g4, co_g5, ml_g0 mlA_12, ml_g1 mlA_12, pl_g5 plA_8, pl_isO plA_8, c_living plA_8 b1, c_hungriest plA_8 b1 (show S' (T 0) 3 = nI P by rw [ft]; exact b3) b5, ft, b3]
set_option maxRecDepth 100000 in
set_option maxHeartbeats 400000 in
theorem qm_worthIn_no (h14 : S 167 14 = bI ht) {n : Int32} (hno : (ht && inB n (nI 0) (nI 60)) = false) : mq (fun h => gX11_worthIn 167 n h) S J T m1 (why ht (inB n (nI 0) (nI 60))) := by
  refine mq_no (X := up (nw S) 11 (why ht (inB n (nI 0) (nI 60)))) ?_ up_eq (nw_p S _)
  simp (disch := omega) only [gX11_worthIn, fX11_worthIn_0, fX11_worthIn_1, fX11_worthIn_4, fX11_worthIn_11, fX11_worthIn_14, fX11_worthIn_19, fX11_worthIn_21, fX11_worthIn_24, fX11_worthIn_25, fX11_worthIn_29, fX11_worthIn_32, mo_isO, mo_g14, kI_0, kI_n, mo_g32, Option.bind_some, n35, n9, n19, n51, n59, nI_add, ix2, ix8, ix22, ix5, ↓reduceIte, c_anew, stR_eq, up_ne, h14, c_aheadWhy, why_ne hno, c_no, stR_stR, nw]
set_option maxRecDepth 100000 in
set_option maxHeartbeats 400000 in
theorem q_worthIn (h : Rl S T) (n : Int32) : bth (fun h => gX10_worthIn 0 n h) (fun h => gX11_worthIn 167 n h) S J T := by
  obtain ⟨ht, P, N, F, U, E, hB⟩ := Rl_bas h
  cases hno : (ht && inB n (nI 0) (nI 60)) with
  | false => exact bth_q h (qc_worthIn_no hB hno) (fun S1 hf => qm_worthIn_no (by rw [hf 167 (by decide)]; exact hB.2.2.2.2.2.2.1) hno) (why_4 _ _)
  | true =>
    rw [Bool.and_eq_true] at hno
    obtain ⟨rfl, hin⟩ := hno
    obtain ⟨k, hk, hk2, rfl⟩ := inB_t (by omega) (by omega) hin
    have hy := hB.2.2.2.2.2.2.2.2.1 rfl
    have hP5 := hB.2.2.2.2.1
    have hr3 : S 170 3 = nI P := hy.1.1.1
    refine bth_q h (qc_worthIn hB hk hk2 (V := wN (S 170) P N F (S 170 0) (S 174) k) (fun S' hc => hc.2.2.2.2.2)) (fun S1 hf => ?_) n0_4
    have h167 : S1 167 = S 167 := hf 167 (by decide)
    obtain ⟨S2, k1, k2, k3⟩ := y_within (pv := none) (kv := none) (S := S) (S0 := stR S1 167 (nw S1)) (J := J) (T := T) hy (by rw [stR_ne (by omega)]; exact hf 170 (by decide)) (by rw [stR_ne (by omega)]; exact hf 174 (by decide)) (fun j hj => by cases hj) (fun j hj => by cases hj) hk2
    rw [pI_n] at k1
    obtain ⟨q1, q2, q3⟩ := wfm_q k3
    have h170 : S2 170 = S 170 := by rw [q1 170 (by decide)]; exact hf 170 (by decide)
    refine ⟨S2, ?_, q1, q2, q3⟩
    have h14 : nw S1 14 = nI 1 := by unfold nw; rw [up_ne (by omega), up_ne (by omega), h167]; exact hB.2.2.2.2.2.2.1
    have hanew : gX11_anew 167 (hp S1 J T) = some (hp (stR S1 167 (nw S1)) J T) := c_anew
    have hho : gX11_hungriestOf 167 175 (nI 0) (hp S2 J T) = some (oi (hu (S2 175) P), hp S2 J T) := c_hungriestOf (J := J) (T := T) rwA_175 (show S2 170 3 = nI P by rw [h170]; exact hr3) hP5 false
    have hval : S2 167 32 = wN (S 170) P N F (S 170 0) (S 174) k := k2.2.2.2.1
    rw [← hval]
    simp (disch := omega) only [gX11_worthIn, fX11_worthIn_0, fX11_worthIn_1, fX11_worthIn_4, fX11_worthIn_11, fX11_worthIn_14, fX11_worthIn_19, fX11_worthIn_21, fX11_worthIn_24, fX11_worthIn_25, fX11_worthIn_29, fX11_worthIn_32, mo_isO, mo_g14, kI_0, kI_n, mo_g32, Option.bind_some, n35, n9, n19, n51, n59, nI_add, ix2, ix8, ix22, ix5, ↓reduceIte, hanew, stR_eq, h14, c_ahead1 (inB_n hk hk2 (by omega)), n0_0, k1, mo_g29, mo_g30, mo_g31, mo_g32, mo_g33, mo_g25, mo_g26, mo_f20, rw_r rwA_175, c_everybody, hho, h170, hr3, kI_n, kB_12, kB_10, Bool.false_eq_true, if_false]
set_option maxRecDepth 100000 in
set_option maxHeartbeats 400000 in
theorem q_hungerIn (h : Rl S T) (p n : Int32) : bth (fun h => gX10_hungerIn 0 p n h) (fun h => gX11_hungerIn 167 p n h) S J T := by
  obtain ⟨ht, P, N, F, U, E, hB⟩ := Rl_bas h
  obtain ⟨b1, b2, b3, b4, b5, b6, b7, b8, b9, b10⟩ := id hB
  have hanew : ∀ S1 : Mem, gX11_anew 167 (hp S1 J T) = some (hp (stR S1 167 (nw S1)) J T) := fun S1 => c_anew
  have hip : ∀ S1, fr S S1 CL → gX11_isPerson 167 p (hp (stR S1 167 (nw S1)) J T) = some (bI (okB' p P), hp (stR S1 167 (nw S1)) J T) := fun S1 hf => m_isP (S1 := stR S1 167 (nw S1)) (J := J) (p := p) hB (by rw [stR_eq, nw14, hf 167 (by decide)]) (by rw [stR_ne (by omega)]; exact hf 170 (by decide))
  cases hno : (okB' p P && inB n (nI 0) (nI 60)) with
  | false =>
    refine bth_q h (v := m1) (tr := why (okB' p P) (inB n (nI 0) (nI 60))) (cq_no ?_) (fun S1 hf => mq_no (X := up (nw S1) 11 (why (okB' p P) (inB n (nI 0) (nI 60)))) ?_ up_eq (nw_p S1 _)) (why_4 _ _)
    · simp (disch := omega) only [gX10_hungerIn, fX10_hungerIn_0, fX10_hungerIn_3, fX10_hungerIn_6, fX10_hungerIn_10, fX10_hungerIn_13, fX10_hungerIn_16, fX10_hungerIn_18, fX10_hungerIn_31, fX10_hungerIn_34, lt_isO, kI_0, kB_60, kI_n, lt_f1, lt_f9, lt_f8, co_isO, co_f0, Option.bind_some, n35, n9, n19, n51, n59, nI_add, ix2, ix8, ix22, ix5, ↓reduceIte, lt_isO, c_lacksPerson b1 b3, c_isRefused, hno, Bool.not_false, bI_t, n1_0]
    · simp (disch := omega) only [gX11_hungerIn, fX11_hungerIn_0, fX11_hungerIn_1, fX11_hungerIn_4, fX11_hungerIn_7, fX11_hungerIn_10, fX11_hungerIn_12, fX11_hungerIn_15, fX11_hungerIn_20, fX11_hungerIn_22, fX11_hungerIn_25, fX11_hungerIn_26, fX11_hungerIn_28, fX11_hungerIn_31, mo_isO, kI_0, mo_f20, mo_r20, Option.bind_some, n35, n9, n19, n51, n59, nI_add, ix2, ix8, ix22, ix5, ↓reduceIte, hanew, hip S1 hf, c_aheadWhy, why_ne hno, c_no, stR_stR, stR_eq]
  | true =>
    rw [Bool.and_eq_true] at hno
    obtain ⟨hok, hin⟩ := hno
    obtain rfl := ok_yes hB hok
    obtain ⟨j, hj, rfl⟩ := okB_t (by omega) hok
    obtain ⟨k, hk, hk2, rfl⟩ := inB_t (by omega) (by omega) hin
    have hy := b9 rfl
    refine bth_q h (v := dyN (S 170) P N F (S 170 0) k (S 174) j) (tr := nI 0) ?_ (fun S1 hf => ?_) n0_4
    · obtain ⟨S', k1, k2, k3⟩ := y_walk (S := S) (S0 := stR S 0 (up (S 0) 11 (nI 0))) (J := J) (T := T) b1 b2 hy (by rw [stR_ne (by omega)]) (by rw [stR_ne (by omega)]) hk2
      have f0 : S' 0 = up (S 0) 11 (nI 0) := by rw [k3 0 (by decide), stR_eq]
      have hv : S' 8 j = dyN (S 170) P N F (S 170 0) k (S 174) j := (k2.1.1 j hj).1
      refine ⟨S', ?_, fr_CL (fr_st (fr_rf S _) (by decide)) k3, by rw [f0, up_eq], by rw [f0, up_ne (by omega)]⟩
      have hlp : gX10_lacksPerson 0 (nI j) (hp S J T) = some (nI 0, hp S J T) := by rw [c_lacksPerson b1 b3, hok]; rfl
      simp (disch := omega) only [gX10_hungerIn, fX10_hungerIn_0, fX10_hungerIn_3, fX10_hungerIn_6, fX10_hungerIn_10, fX10_hungerIn_13, fX10_hungerIn_16, fX10_hungerIn_18, fX10_hungerIn_31, fX10_hungerIn_34, lt_isO, kI_0, kB_60, kI_n, lt_f1, lt_f9, lt_f8, co_isO, co_f0, Option.bind_some, n35, n9, n19, n51, n59, nI_add, ix2, ix8, ix22, ix5, ↓reduceIte, lt_isO, hlp, c_isRef1 hin, n0_0, lt_f1, lt_f8, lt_f9, co_isO, k1, co_f0, co_f1, co_f2, co_f3, co_r2, co_r3, pl_f0 plA_8, pl_r0 plA_8, hv]
    · have hip1 : gX11_isPerson 167 (nI j) (hp (stR S1 167 (nw S1)) J T) = some (nI 1, hp (stR S1 167 (nw S1)) J T) := by rw [hip S1 hf, hok]; rfl
      obtain ⟨S2, k1, k2, k3⟩ := y_days (S := S) (S0 := stR S1 167 (nw S1)) (J := J) (T := T) hy (by rw [stR_ne (by omega)]; exact hf 170 (by decide)) (by rw [stR_ne (by omega)]; exact hf 174 (by decide)) hk2
      obtain ⟨q1, q2, q3⟩ := mfr_q k3
      have hv : S2 175 j = dyN (S 170) P N F (S 170 0) k (S 174) j := (k2.1.1 j hj).1
      refine ⟨S2, ?_, q1, q2, q3⟩
      simp (disch := omega) only [gX11_hungerIn, fX11_hungerIn_0, fX11_hungerIn_1, fX11_hungerIn_4, fX11_hungerIn_7, fX11_hungerIn_10, fX11_hungerIn_12, fX11_hungerIn_15, fX11_hungerIn_20, fX11_hungerIn_22, fX11_hungerIn_25, fX11_hungerIn_26, fX11_hungerIn_28, fX11_hungerIn_31, mo_isO, kI_0, mo_f20, mo_r20, Option.bind_some, n35, n9, n19, n51, n59, nI_add, ix2, ix8, ix22, ix5, ↓reduceIte, hanew, hip1, c_ahead1 hin, n0_0, k1, mo_f20, rw_r rwA_175, hv]
set_option maxRecDepth 100000 in
set_option maxHeartbeats 400000 in
theorem q_eats (h : Rl S T) (p n : Int32) : bth (fun h => gX10_eats 0 p n h) (fun h => gX11_eats 167 p n h) S J T := by
  obtain ⟨ht, P, N, F, U, E, hB⟩ := Rl_bas h
  obtain ⟨b1, b2, b3, b4, b5, b6, b7, b8, b9, b10⟩ := id hB
  have hanew : ∀ S1 : Mem, gX11_anew 167 (hp S1 J T) = some (hp (stR S1 167 (nw S1)) J T) := fun S1 => c_anew
  have hip : ∀ S1, fr S S1 CL → gX11_isPerson 167 p (hp (stR S1 167 (nw S1)) J T) = some (bI (okB' p P), hp (stR S1 167 (nw S1)) J T) := fun S1 hf => m_isP (S1 := stR S1 167 (nw S1)) (J := J) (p := p) hB (by rw [stR_eq, nw14, hf 167 (by decide)]) (by rw [stR_ne (by omega)]; exact hf 170 (by decide))
  cases hno : (okB' p P && inB n (nI 0) (nI 60)) with
  | false =>
    refine bth_q h (v := m1) (tr := why (okB' p P) (inB n (nI 0) (nI 60))) (cq_no ?_) (fun S1 hf => mq_no (X := up (nw S1) 11 (why (okB' p P) (inB n (nI 0) (nI 60)))) ?_ up_eq (nw_p S1 _)) (why_4 _ _)
    · simp (disch := omega) only [gX10_eats, fX10_eats_0, fX10_eats_3, fX10_eats_6, fX10_eats_10, fX10_eats_13, fX10_eats_16, fX10_eats_18, fX10_eats_31, fX10_eats_34, lt_isO, kI_0, kB_60, kI_n, lt_f1, lt_f9, lt_f8, co_isO, co_f2, co_r2, Option.bind_some, n35, n9, n19, n51, n59, nI_add, ix2, ix8, ix22, ix5, ↓reduceIte, lt_isO, c_lacksPerson b1 b3, c_isRefused, hno, Bool.not_false, bI_t, n1_0]
    · simp (disch := omega) only [gX11_eats, fX11_eats_0, fX11_eats_1, fX11_eats_4, fX11_eats_7, fX11_eats_10, fX11_eats_12, fX11_eats_15, fX11_eats_20, fX11_eats_22, fX11_eats_25, fX11_eats_26, fX11_eats_30, fX11_eats_33, mo_isO, kI_0, kI_n, mo_g29, Option.bind_some, n35, n9, n19, n51, n59, nI_add, ix2, ix8, ix22, ix5, ↓reduceIte, hanew, hip S1 hf, c_aheadWhy, why_ne hno, c_no, stR_stR, stR_eq]
  | true =>
    rw [Bool.and_eq_true] at hno
    obtain ⟨hok, hin⟩ := hno
    obtain rfl := ok_yes hB hok
    obtain ⟨j, hj, rfl⟩ := okB_t (by omega) hok
    obtain ⟨k, hk, hk2, rfl⟩ := inB_t (by omega) (by omega) hin
    have hy := b9 rfl
    refine bth_q h (v := aN (S 170) P N F (S 170 0) (S 174) k j) (tr := nI 0) ?_ (fun S1 hf => ?_) n0_4
    · obtain ⟨S', k1, k2, k3⟩ := y_walk (S := S) (S0 := stR S 0 (up (S 0) 11 (nI 0))) (J := J) (T := T) b1 b2 hy (by rw [stR_ne (by omega)]) (by rw [stR_ne (by omega)]) hk2
      have f0 : S' 0 = up (S 0) 11 (nI 0) := by rw [k3 0 (by decide), stR_eq]
      have hv : S' 15 j = aN (S 170) P N F (S 170 0) (S 174) k j := k2.2.2.1 j hj
      refine ⟨S', ?_, fr_CL (fr_st (fr_rf S _) (by decide)) k3, by rw [f0, up_eq], by rw [f0, up_ne (by omega)]⟩
      have hlp : gX10_lacksPerson 0 (nI j) (hp S J T) = some (nI 0, hp S J T) := by rw [c_lacksPerson b1 b3, hok]; rfl
      simp (disch := omega) only [gX10_eats, fX10_eats_0, fX10_eats_3, fX10_eats_6, fX10_eats_10, fX10_eats_13, fX10_eats_16, fX10_eats_18, fX10_eats_31, fX10_eats_34, lt_isO, kI_0, kB_60, kI_n, lt_f1, lt_f9, lt_f8, co_isO, co_f2, co_r2, Option.bind_some, n35, n9, n19, n51, n59, nI_add, ix2, ix8, ix22, ix5, ↓reduceIte, lt_isO, hlp, c_isRef1 hin, n0_0, lt_f1, lt_f8, lt_f9, co_isO, k1, co_f0, co_f1, co_f2, co_f3, co_r2, co_r3, pl_f0 plA_8, pl_r0 plA_8, hv]
    · have hip1 : gX11_isPerson 167 (nI j) (hp (stR S1 167 (nw S1)) J T) = some (nI 1, hp (stR S1 167 (nw S1)) J T) := by rw [hip S1 hf, hok]; rfl
      obtain ⟨S2, k1, k2, k3⟩ := y_within (pv := some j) (kv := none) (S := S) (S0 := stR S1 167 (nw S1)) (J := J) (T := T) hy (by rw [stR_ne (by omega)]; exact hf 170 (by decide)) (by rw [stR_ne (by omega)]; exact hf 174 (by decide)) (fun i hi => by cases hi; omega) (fun i hi => by cases hi) hk2
      rw [pI_n, pI_s] at k1
      obtain ⟨q1, q2, q3⟩ := wfm_q k3
      have hv : S2 167 29 = aN (S 170) P N F (S 170 0) (S 174) k j := k2.1
      refine ⟨S2, ?_, q1, q2, q3⟩
      simp (disch := omega) only [gX11_eats, fX11_eats_0, fX11_eats_1, fX11_eats_4, fX11_eats_7, fX11_eats_10, fX11_eats_12, fX11_eats_15, fX11_eats_20, fX11_eats_22, fX11_eats_25, fX11_eats_26, fX11_eats_30, fX11_eats_33, mo_isO, kI_0, kI_n, mo_g29, Option.bind_some, n35, n9, n19, n51, n59, nI_add, ix2, ix8, ix22, ix5, ↓reduceIte, hanew, hip1, c_ahead1 hin, n0_0, k1, mo_f20, rw_r rwA_175, hv]
set_option maxRecDepth 100000 in
set_option maxHeartbeats 400000 in
theorem q_says (h : Rl S T) (p n : Int32) : bth (fun h => gX10_says 0 p n h) (fun h => gX11_says 167 p n h) S J T := by
  obtain ⟨ht, P, N, F, U, E, hB⟩ := Rl_bas h
  obtain ⟨b1, b2, b3, b4, b5, b6, b7, b8, b9, b10⟩ := id hB
  have hanew : ∀ S1 : Mem, gX11_anew 167 (hp S1 J T) = some (hp (stR S1 167 (nw S1)) J T) := fun S1 => c_anew
  have hip : ∀ S1, fr S S1 CL → gX11_isPerson 167 p (hp (stR S1 167 (nw S1)) J T) = some (bI (okB' p P), hp (stR S1 167 (nw S1)) J T) := fun S1 hf => m_isP (S1 := stR S1 167 (nw S1)) (J := J) (p := p) hB (by rw [stR_eq, nw14, hf 167 (by decide)]) (by rw [stR_ne (by omega)]; exact hf 170 (by decide))
  cases hno : (okB' p P && inB n (nI 0) (nI 60)) with
  | false =>
    refine bth_q h (v := m1) (tr := why (okB' p P) (inB n (nI 0) (nI 60))) (cq_no ?_) (fun S1 hf => mq_no (X := up (nw S1) 11 (why (okB' p P) (inB n (nI 0) (nI 60)))) ?_ up_eq (nw_p S1 _)) (why_4 _ _)
    · simp (disch := omega) only [gX10_says, fX10_says_0, fX10_says_3, fX10_says_6, fX10_says_10, fX10_says_13, fX10_says_16, fX10_says_18, fX10_says_31, fX10_says_34, lt_isO, kI_0, kB_60, kI_n, lt_f1, lt_f9, lt_f8, co_isO, co_f3, co_r3, Option.bind_some, n35, n9, n19, n51, n59, nI_add, ix2, ix8, ix22, ix5, ↓reduceIte, lt_isO, c_lacksPerson b1 b3, c_isRefused, hno, Bool.not_false, bI_t, n1_0]
    · simp (disch := omega) only [gX11_says, fX11_says_0, fX11_says_1, fX11_says_4, fX11_says_7, fX11_says_10, fX11_says_12, fX11_says_15, fX11_says_20, fX11_says_22, fX11_says_25, fX11_says_26, fX11_says_30, fX11_says_33, mo_isO, kI_0, kI_n, mo_g30, Option.bind_some, n35, n9, n19, n51, n59, nI_add, ix2, ix8, ix22, ix5, ↓reduceIte, hanew, hip S1 hf, c_aheadWhy, why_ne hno, c_no, stR_stR, stR_eq]
  | true =>
    rw [Bool.and_eq_true] at hno
    obtain ⟨hok, hin⟩ := hno
    obtain rfl := ok_yes hB hok
    obtain ⟨j, hj, rfl⟩ := okB_t (by omega) hok
    obtain ⟨k, hk, hk2, rfl⟩ := inB_t (by omega) (by omega) hin
    have hy := b9 rfl
    refine bth_q h (v := bN (S 170) P N F (S 170 0) (S 174) k j) (tr := nI 0) ?_ (fun S1 hf => ?_) n0_4
    · obtain ⟨S', k1, k2, k3⟩ := y_walk (S := S) (S0 := stR S 0 (up (S 0) 11 (nI 0))) (J := J) (T := T) b1 b2 hy (by rw [stR_ne (by omega)]) (by rw [stR_ne (by omega)]) hk2
      have f0 : S' 0 = up (S 0) 11 (nI 0) := by rw [k3 0 (by decide), stR_eq]
      have hv : S' 16 j = bN (S 170) P N F (S 170 0) (S 174) k j := k2.2.2.2.1 j hj
      refine ⟨S', ?_, fr_CL (fr_st (fr_rf S _) (by decide)) k3, by rw [f0, up_eq], by rw [f0, up_ne (by omega)]⟩
      have hlp : gX10_lacksPerson 0 (nI j) (hp S J T) = some (nI 0, hp S J T) := by rw [c_lacksPerson b1 b3, hok]; rfl
      simp (disch := omega) only [gX10_says, fX10_says_0, fX10_says_3, fX10_says_6, fX10_says_10, fX10_says_13, fX10_says_16, fX10_says_18, fX10_says_31, fX10_says_34, lt_isO, kI_0, kB_60, kI_n, lt_f1, lt_f9, lt_f8, co_isO, co_f3, co_r3, Option.bind_some, n35, n9, n19, n51, n59, nI_add, ix2, ix8, ix22, ix5, ↓reduceIte, lt_isO, hlp, c_isRef1 hin, n0_0, lt_f1, lt_f8, lt_f9, co_isO, k1, co_f0, co_f1, co_f2, co_f3, co_r2, co_r3, pl_f0 plA_8, pl_r0 plA_8, hv]
    · have hip1 : gX11_isPerson 167 (nI j) (hp (stR S1 167 (nw S1)) J T) = some (nI 1, hp (stR S1 167 (nw S1)) J T) := by rw [hip S1 hf, hok]; rfl
      obtain ⟨S2, k1, k2, k3⟩ := y_within (pv := some j) (kv := none) (S := S) (S0 := stR S1 167 (nw S1)) (J := J) (T := T) hy (by rw [stR_ne (by omega)]; exact hf 170 (by decide)) (by rw [stR_ne (by omega)]; exact hf 174 (by decide)) (fun i hi => by cases hi; omega) (fun i hi => by cases hi) hk2
      rw [pI_n, pI_s] at k1
      obtain ⟨q1, q2, q3⟩ := wfm_q k3
      have hv : S2 167 30 = bN (S 170) P N F (S 170 0) (S 174) k j := k2.2.1
      refine ⟨S2, ?_, q1, q2, q3⟩
      simp (disch := omega) only [gX11_says, fX11_says_0, fX11_says_1, fX11_says_4, fX11_says_7, fX11_says_10, fX11_says_12, fX11_says_15, fX11_says_20, fX11_says_22, fX11_says_25, fX11_says_26, fX11_says_30, fX11_says_33, mo_isO, kI_0, kI_n, mo_g30, Option.bind_some, n35, n9, n19, n51, n59, nI_add, ix2, ix8, ix22, ix5, ↓reduceIte, hanew, hip1, c_ahead1 hin, n0_0, k1, mo_f20, rw_r rwA_175, hv]
end Q6

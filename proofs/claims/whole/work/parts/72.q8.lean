-- UNEVEN HUNGERS, A GUEST FOR A NAME
def uvS (R : Row) (t p : Nat) (x : Int32) : Int32 := if lv R p then (if x < R t - R p then R t - R p else x) else x
def uv (R : Row) (P : Nat) : Int32 := match hu R P with
  | none => nI 0
  | some t => itr (uvS R t) P 0 (nI 0)
def uw (R : Row) (P : Nat) : Int32 := match hu R P with
  | none => nI 0
  | some t => R t - R (match hl R P with
    | none => 0
    | some l => l)
set_option maxRecDepth 100000 in
set_option maxHeartbeats 400000 in
theorem cl_n {n B : Nat} (h : n ≤ B) : True := trivial
set_option maxRecDepth 100000 in
set_option maxHeartbeats 400000 in
theorem uv_uw {R : Row} {P : Nat} (h : ∀ p, p < P → sm (R p) 300) : uv R P = uw R P := by
  unfold uv uw
  have a1 := hu_AM R P
  have a2 := hl_AM R P
  cases e : hu R P with
  | none => rfl
  | some t =>
    rw [e] at a1
    cases e2 : hl R P with
    | none =>
      rw [e2] at a2
      have := a2 t a1.1
      rw [a1.2.1] at this
      cases this
    | some l =>
      rw [e2] at a2
      dsimp only
      obtain ⟨t1, t2, t3, t4⟩ := a1
      obtain ⟨l1, l2, l3, l4⟩ := a2
      have hc : ∀ p, p < P → R p = nI (cN2 (R p)) ∧ cN2 (R p) ≤ 300 := fun p hp => sm_cN (h p hp) (by omega)
      have hi : ∀ p, p < P → (R p).toInt = (cN2 (R p) : Int) := fun p hp => by
        have q := hc p hp
        generalize cN2 (R p) = n at q ⊢
        rw [q.1]
        show (Int32.ofNat n).toInt = _
        rw [Int32.toInt_ofNat_of_lt (by omega)]
      have top : ∀ p, p < P → lv R p = true → cN2 (R p) ≤ cN2 (R t) := by
        intro p hp hl'
        have h1 := hi p hp
        have h2 := hi t t1
        rcases Nat.lt_trichotomy p t with z | z | z
        · have := t3 p z hl'; dsimp only at this; omega
        · rw [z]; exact Nat.le_refl _
        · have := t4 p z hp hl'; dsimp only at this; omega
      have bot : ∀ p, p < P → lv R p = true → cN2 (R l) ≤ cN2 (R p) := by
        intro p hp hl'
        have h1 := hi p hp
        have h2 := hi l l1
        rcases Nat.lt_trichotomy p l with z | z | z
        · have := l3 p z hl'; dsimp only at this; omega
        · rw [z]; exact Nat.le_refl _
        · have := l4 p z hp hl'; dsimp only at this; omega
      have key := itr_inv (f := uvS R t) (I := fun k x => ∃ n, x = nI n ∧ n ≤ cN2 (R t) - cN2 (R l) ∧ (l < k → n = cN2 (R t) - cN2 (R l))) (N := P) (fun k x hk hx => ?_) P 0 (nI 0) (by omega) ⟨0, rfl, by omega, fun z => by omega⟩
      · obtain ⟨n, k1, k2, k3⟩ := key
        have q1 := (hc t t1).1
        have q2 := (hc l l1).1
        have q3 := top l l1 l2
        rw [k1, k3 l1]
        generalize cN2 (R t) = A at *
        generalize cN2 (R l) = B at *
        rw [q1, q2, nsub q3]
      · obtain ⟨n, k1, k2, k3⟩ := hx
        have hT := (hc t t1).2
        unfold uvS
        cases hlk : lv R k with
        | false =>
          refine ⟨n, by rw [if_neg (by decide)]; exact k1, k2, fun z => ?_⟩
          by_cases ek : l = k
          · rw [ek, hlk] at l2; cases l2
          · exact k3 (by omega)
        | true =>
          rw [if_pos rfl]
          have h1 := top k hk hlk
          have h2 := bot k hk hlk
          have eT : R t - R k = nI (cN2 (R t) - cN2 (R k)) := by
            have q1 := (hc t t1).1
            have q2 := (hc k hk).1
            generalize cN2 (R t) = A at *
            generalize cN2 (R k) = B at *
            rw [q1, q2, nsub h1]
          rw [eT, k1]
          by_cases hlt : n < cN2 (R t) - cN2 (R k)
          · rw [if_pos ((lt_iff (by omega) (by omega)).mpr hlt)]
            refine ⟨_, rfl, by omega, fun z => ?_⟩
            by_cases ek : l = k
            · rw [ek]
            · have := k3 (by omega); omega
          · rw [if_neg (fun z => hlt ((lt_iff (by omega) (by omega)).mp z))]
            refine ⟨n, rfl, k2, fun z => ?_⟩
            by_cases ek : l = k
            · rw [ek] at k2 ⊢; omega
            · exact k3 (by omega)
set_option maxRecDepth 100000 in
set_option maxHeartbeats 400000 in
theorem uw_ag {R Q : Row} {P N : Nat} (h : agR R Q P N) : uw R P = uw Q P := by
  unfold uw
  rw [← hu_ag h, ← hl_ag h]
  cases e : hu R P with
  | none => rfl
  | some t =>
    dsimp only
    cases e2 : hl R P with
    | none =>
      have a1 := hu_AM R P
      have a2 := hl_AM R P
      rw [e] at a1
      rw [e2] at a2
      have := a2 t a1.1
      rw [a1.2.1] at this
      cases this
    | some l => dsimp only; rw [(h.1 t (hu_lt t e)).1, (h.1 l (hl_lt l e2)).1]
section Q8
variable {S S1 : Mem} {J : MeJ} {T : Nat → Nat} {t a w P N F U E : Nat} {ht : Bool}
set_option maxRecDepth 100000 in
set_option maxHeartbeats 400000 in
theorem c_unevenness (ha : plA a) (htl : tlA t) (hP : S t 3 = nI P) (hP5 : P ≤ 5) : gX7_unevenness a t (hp S J T) = some (uv (S a) P, hp S J T) := by
  have hul : ∀ j, hu (S a) P = some j → j < P := hu_lt
  simp (disch := omega) only [gX7_unevenness, fX7_unevenness_0, fX7_unevenness_2, fX7_unevenness_5, pl_isO ha, Option.bind_some, c_hungriest ha htl hP hP5, kI_0]
  unfold uv
  cases e : hu (S a) P with
  | none =>
    obtain ⟨f, hf⟩ : ∃ f, FU = f + 1 := ⟨39999, FU_eq⟩
    rw [hf]
    unfold lX7_unevenness_11
    by_cases h0 : 0 < P
    · simp (disch := omega) only [fX7_unevenness_11, fX7_unevenness_20, fX7_unevenness_58, tl_g3 htl, Option.bind_some, hP, lt_eq, h0, ↓reduceIte, on_lt]
    · simp (disch := omega) only [fX7_unevenness_11, fX7_unevenness_58, tl_g3 htl, Option.bind_some, hP, lt_eq, h0, ↓reduceIte]
  | some j =>
    have hj := hul j e
    refine for_loop lX7_unevenness_11 fX7_unevenness_11 (fun _ => rfl) (fun K k x => K a t (oi (some j)) x (nI k) (hp S J T)) (fun _ _ => True) P (uvS (S a) j) (fun x => some (x, hp S J T)) (fun K k x hk _ => ?_) (fun k x hk _ => trivial) (fun K x _ => ?_) P 0 FU (nI 0) (by omega) (FU_lt (by omega)) trivial
    · unfold uvS
      cases h1 : bt (S a 10) k with
      | true =>
        have hlv : lv (S a) k = false := by unfold lv; rw [h1]; rfl
        rw [hlv]
        simp (disch := omega) only [gX7_unevenness, fX7_unevenness_0, fX7_unevenness_2, fX7_unevenness_5, fX7_unevenness_11, fX7_unevenness_20, fX7_unevenness_24, fX7_unevenness_27, fX7_unevenness_30, fX7_unevenness_33, fX7_unevenness_48, fX7_unevenness_51, fX7_unevenness_52, fX7_unevenness_58, pl_isO ha, kI_0, tl_g3 htl, pl_f0 ha, pl_r0 ha, kI_1, Option.bind_some, n35, n9, n19, n51, n59, nI_add, ix2, ix8, ix22, ix5, ↓reduceIte, hP, lt_eq, hk, oi_some, nI_lt0, c_isDead ha, h1, bI_t, n1_0, Bool.false_eq_true]
      | false =>
        have hlv : lv (S a) k = true := by unfold lv; rw [h1]; rfl
        rw [hlv]
        simp (disch := omega) only [gX7_unevenness, fX7_unevenness_0, fX7_unevenness_2, fX7_unevenness_5, fX7_unevenness_11, fX7_unevenness_20, fX7_unevenness_24, fX7_unevenness_27, fX7_unevenness_30, fX7_unevenness_33, fX7_unevenness_48, fX7_unevenness_51, fX7_unevenness_52, fX7_unevenness_58, pl_isO ha, kI_0, tl_g3 htl, pl_f0 ha, pl_r0 ha, kI_1, Option.bind_some, n35, n9, n19, n51, n59, nI_add, ix2, ix8, ix22, ix5, ↓reduceIte, hP, lt_eq, hk, oi_some, nI_lt0, c_isDead ha, h1, bI_f, n0_0]
    · simp (disch := omega) only [gX7_unevenness, fX7_unevenness_0, fX7_unevenness_2, fX7_unevenness_5, fX7_unevenness_11, fX7_unevenness_20, fX7_unevenness_24, fX7_unevenness_27, fX7_unevenness_30, fX7_unevenness_33, fX7_unevenness_48, fX7_unevenness_51, fX7_unevenness_52, fX7_unevenness_58, pl_isO ha, kI_0, tl_g3 htl, pl_f0 ha, pl_r0 ha, kI_1, Option.bind_some, n35, n9, n19, n51, n59, nI_add, ix2, ix8, ix22, ix5, ↓reduceIte, hP, lt_eq, Nat.lt_irrefl]
set_option maxRecDepth 100000 in
set_option maxHeartbeats 400000 in
theorem qc_unevenIn_no (hB : Bas S T ht P N F U E) {n : Int32} (hno : (ht && inB n (nI 0) (nI 60)) = false) : cq (fun h => gX10_unevenIn 0 n h) S J T m1 (why ht (inB n (nI 0) (nI 60))) := by
  obtain ⟨b1, b2, b3, b4, b5, b6, b7, b8, b9, b10⟩ := hB
  refine cq_no ?_
  simp (disch := omega) only [gX10_unevenIn, fX10_unevenIn_0, fX10_unevenIn_2, fX10_unevenIn_5, fX10_unevenIn_9, fX10_unevenIn_12, fX10_unevenIn_15, fX10_unevenIn_17, fX10_unevenIn_30, fX10_unevenIn_33, fX10_unevenIn_44, fX10_unevenIn_47, lt_isO, kI_0, kB_60, kI_n, lt_f1, lt_f9, lt_f8, co_isO, co_f0, Option.bind_some, n35, n9, n19, n51, n59, nI_add, ix2, ix8, ix22, ix5, ↓reduceIte, lt_isO, c_lacksTable b1 b3 b5, b8, c_isRefused, hno, Bool.not_false, bI_t, n1_0]
set_option maxRecDepth 100000 in
set_option maxHeartbeats 400000 in
theorem qc_unevenIn (hB : Bas S T true P N F U E) {k : Nat} (hk : 0 ≤ k) (hk2 : k ≤ 60) {V : Int32} (hV : ∀ S', crM S' (S 170) P N F (S 174) k → uv (S' 8) P = V) : cq (fun h => gX10_unevenIn 0 (nI k) h) S J T V (nI 0) := by
  have hlk := c_lack1 (J := J) hB
  obtain ⟨b1, b2, b3, b4, b5, b6, b7, b8, b9, b10⟩ := hB
  obtain ⟨S', k1, k2, k3⟩ := y_walk (S := S) (S0 := stR S 0 (up (S 0) 11 (nI 0))) (J := J) (T := T) b1 b2 (b9 rfl) (by rw [stR_ne (by omega)]) (by rw [stR_ne (by omega)]) hk2
  have f0 : S' 0 = up (S 0) 11 (nI 0) := by rw [k3 0 (by decide), stR_eq]
  have ft : S' (T 0) = S (T 0) := by rw [k3 (T 0) (by simp; omega), stR_ne (by omega)]
  refine ⟨S', ?_, fr_CL (fr_st (fr_rf S _) (by decide)) k3, by rw [f0, up_eq], by rw [f0, up_ne (by omega)]⟩
  rw [← hV S' k2]
  simp (disch := omega) only [gX10_unevenIn, fX10_unevenIn_0, fX10_unevenIn_2, fX10_unevenIn_5, fX10_unevenIn_9, fX10_unevenIn_12, fX10_unevenIn_15, fX10_unevenIn_17, fX10_unevenIn_30, fX10_unevenIn_33, fX10_unevenIn_44, fX10_unevenIn_47, lt_isO, kI_0, kB_60, kI_n, lt_f1, lt_f9, lt_f8, co_isO, co_f0, Option.bind_some, n35, n9, n19, n51, n59, nI_add, ix2, ix8, ix22, ix5, ↓reduceIte, lt_isO, hlk, c_isRef1 (inB_n hk hk2 (by omega)), n0_0, lt_f1, lt_f8, lt_f9, co_isO, k1, co_f0, co_f1, co_g4, co_g5, ml_g0 mlA_12, ml_g1 mlA_12, pl_g5 plA_8, pl_isO plA_8, c_living plA_8 b1, c_unevenness plA_8 b1 (show S' (T 0) 3 = nI P by rw [ft]; exact b3) b5, ft, b3]
set_option maxRecDepth 100000 in
set_option maxHeartbeats 400000 in
theorem qm_unevenIn_no (h14 : S 167 14 = bI ht) {n : Int32} (hno : (ht && inB n (nI 0) (nI 60)) = false) : mq (fun h => gX11_unevenIn 167 n h) S J T m1 (why ht (inB n (nI 0) (nI 60))) := by
  refine mq_no (X := up (nw S) 11 (why ht (inB n (nI 0) (nI 60)))) ?_ up_eq (nw_p S _)
  simp (disch := omega) only [gX11_unevenIn, fX11_unevenIn_0, fX11_unevenIn_1, fX11_unevenIn_4, fX11_unevenIn_11, fX11_unevenIn_14, fX11_unevenIn_19, fX11_unevenIn_21, fX11_unevenIn_24, fX11_unevenIn_25, fX11_unevenIn_27, fX11_unevenIn_30, fX11_unevenIn_36, fX11_unevenIn_39, fX11_unevenIn_44, fX11_unevenIn_48, fX11_unevenIn_64, fX11_unevenIn_67, fX11_unevenIn_69, mo_isO, mo_g14, kI_0, mo_f20, mo_r20, kI_1, Option.bind_some, n35, n9, n19, n51, n59, nI_add, ix2, ix8, ix22, ix5, ↓reduceIte, c_anew, stR_eq, up_ne, h14, c_aheadWhy, why_ne hno, c_no, stR_stR, nw]
set_option maxRecDepth 100000 in
set_option maxHeartbeats 400000 in
theorem q_unevenIn (h : Rl S T) (n : Int32) : bth (fun h => gX10_unevenIn 0 n h) (fun h => gX11_unevenIn 167 n h) S J T := by
  obtain ⟨ht, P, N, F, U, E, hB⟩ := Rl_bas h
  cases hno : (ht && inB n (nI 0) (nI 60)) with
  | false => exact bth_q h (qc_unevenIn_no hB hno) (fun S1 hf => qm_unevenIn_no (by rw [hf 167 (by decide)]; exact hB.2.2.2.2.2.2.1) hno) (why_4 _ _)
  | true =>
    rw [Bool.and_eq_true] at hno
    obtain ⟨rfl, hin⟩ := hno
    obtain ⟨k, hk, hk2, rfl⟩ := inB_t (by omega) (by omega) hin
    have hy := hB.2.2.2.2.2.2.2.2.1 rfl
    have hP5 := hB.2.2.2.2.1
    have hr3 : S 170 3 = nI P := hy.1.1.1
    have hinv := dyN_inv (F := F) hy.1.1 hy.2.2.2.2.2.1 hy.1.1.2.2.2.2.1 k (by omega)
    refine bth_q h (qc_unevenIn hB hk hk2 (V := uw (dyN (S 170) P N F (S 170 0) k (S 174)) P) (fun S' hc => by rw [uv_uw (Inv_ag hc.1 hinv).1, uw_ag hc.1])) (fun S1 hf => ?_) n0_4
    have h167 : S1 167 = S 167 := hf 167 (by decide)
    obtain ⟨S2, k1, k2, k3⟩ := y_days (S := S) (S0 := stR S1 167 (nw S1)) (J := J) (T := T) hy (by rw [stR_ne (by omega)]; exact hf 170 (by decide)) (by rw [stR_ne (by omega)]; exact hf 174 (by decide)) hk2
    obtain ⟨q1, q2, q3⟩ := mfr_q k3
    have h170 : S2 170 = S 170 := by rw [q1 170 (by decide)]; exact hf 170 (by decide)
    refine ⟨S2, ?_, q1, q2, q3⟩
    have h14 : nw S1 14 = nI 1 := by unfold nw; rw [up_ne (by omega), up_ne (by omega), h167]; exact hB.2.2.2.2.2.2.1
    have hanew : gX11_anew 167 (hp S1 J T) = some (hp (stR S1 167 (nw S1)) J T) := c_anew
    have hho : gX11_hungriestOf 167 175 (nI 0) (hp S2 J T) = some (oi (hu (S2 175) P), hp S2 J T) := c_hungriestOf (J := J) (T := T) rwA_175 (show S2 170 3 = nI P by rw [h170]; exact hr3) hP5 false
    have hhl : gX11_hungriestOf 167 175 (nI 1) (hp S2 J T) = some (oi (hl (S2 175) P), hp S2 J T) := c_hungriestOf (J := J) (T := T) rwA_175 (show S2 170 3 = nI P by rw [h170]; exact hr3) hP5 true
    have hval : uw (S2 175) P = uw (dyN (S 170) P N F (S 170 0) k (S 174)) P := uw_ag k2.1
    rw [← hval]
    unfold uw
    cases e : hu (S2 175) P with
    | none =>
      rw [e] at hho
      simp (disch := omega) only [gX11_unevenIn, fX11_unevenIn_0, fX11_unevenIn_1, fX11_unevenIn_4, fX11_unevenIn_11, fX11_unevenIn_14, fX11_unevenIn_19, fX11_unevenIn_21, fX11_unevenIn_24, fX11_unevenIn_25, fX11_unevenIn_27, fX11_unevenIn_30, fX11_unevenIn_36, fX11_unevenIn_39, fX11_unevenIn_44, fX11_unevenIn_48, fX11_unevenIn_64, fX11_unevenIn_67, fX11_unevenIn_69, mo_isO, mo_g14, kI_0, mo_f20, mo_r20, kI_1, Option.bind_some, n35, n9, n19, n51, n59, nI_add, ix2, ix8, ix22, ix5, ↓reduceIte, hanew, stR_eq, h14, c_ahead1 (inB_n hk hk2 (by omega)), n0_0, k1, mo_f20, hho, on_lt]
    | some j =>
      have hj := hu_lt j e
      cases e2 : hl (S2 175) P with
      | none =>
        exfalso
        have a1 := hu_AM (S2 175) P
        have a2 := hl_AM (S2 175) P
        rw [e] at a1
        rw [e2] at a2
        have := a2 j a1.1
        rw [a1.2.1] at this
        cases this
      | some l =>
        have hlP := hl_lt l e2
        rw [e] at hho
        rw [e2] at hhl
        simp (disch := omega) only [gX11_unevenIn, fX11_unevenIn_0, fX11_unevenIn_1, fX11_unevenIn_4, fX11_unevenIn_11, fX11_unevenIn_14, fX11_unevenIn_19, fX11_unevenIn_21, fX11_unevenIn_24, fX11_unevenIn_25, fX11_unevenIn_27, fX11_unevenIn_30, fX11_unevenIn_36, fX11_unevenIn_39, fX11_unevenIn_44, fX11_unevenIn_48, fX11_unevenIn_64, fX11_unevenIn_67, fX11_unevenIn_69, mo_isO, mo_g14, kI_0, mo_f20, mo_r20, kI_1, Option.bind_some, n35, n9, n19, n51, n59, nI_add, ix2, ix8, ix22, ix5, ↓reduceIte, hanew, stR_eq, h14, c_ahead1 (inB_n hk hk2 (by omega)), n0_0, k1, mo_f20, hho, hhl, oi_some, nI_lt0, rw_r rwA_175]
end Q8

-- WHO FLINCHES: by draws
set_option maxRecDepth 100000 in
set_option maxHeartbeats 400000 in
theorem y_hold {S : Mem} {J : MeJ} {T : Nat → Nat} {a m t P N F D : Nat} {bes : Int32} {fl : Bool} (hm : mlA m) (ha : plA a) (htl : tlA t) (hne : a ≠ m) (hnt : t ≠ m) (hta : t ≠ a) (hT : TbS (S t) P N) (hF : S t 5 = nI F) (hF8 : F ≤ 8) (hI : Inv (S a) P N D) : ∃ S2, gX6_hold m t a bes (bI fl) (S t 0) (hp S J T) = some (hp S2 J T) ∧ S2 a = dayR (S t) (S a) P N F bes fl (S t 0) ∧ S2 m 1 = oi (dWt (S t) (S a) P N fl) ∧ fr S S2 [a, m] := by
  obtain ⟨O, o1, o2, o3, o4⟩ := c_hold (S := S) (J := J) (T := T) (m := m) (a := a) (t := t) (P := P) (N := N) (F := F) (bes := bes) (fl := fl) (bowl := S t 0) hm ha htl hne hnt hta hT.1 hT.2.1 hT.2.2.1 hT.2.2.2.1 hF hF8 hT.2.2.2.2.1 (inv_Sml hT hI)
  exact ⟨_, o1, by rw [stR_ne hne, stR_eq], by rw [stR_eq]; exact o3, fr_st (fr_st (fr_rf S _) (by simp)) (by simp)⟩
def drw (c : Int32) : Int32 := (nI 75 * c + nI 74) - (nI 75 * c + nI 74) / 65537 * 65537
def hnd (c : Int32) : Int32 := c - c / nI 100 * nI 100
def dfl_ (r : Row) (c : Int32) : Bool := decide (hnd (drw c) < r 2)
def drS (r : Row) (P N F : Nat) (_ : Nat) (q : Int32 × Row × Int32) : Int32 × Row × Int32 := (drw q.1, dayR r q.2.1 P N F (nI 0) (dfl_ r q.1) (r 0), oi (dWt r q.2.1 P N (dfl_ r q.1)))
set_option maxRecDepth 100000 in
set_option maxHeartbeats 400000 in
theorem dr_ag {r q : Row} {P N F : Nat} (hr : agT r q P N F) (hP5 : P ≤ 5) : ∀ (m k : Nat) (x y : Int32 × Row × Int32), x.1 = y.1 → agR x.2.1 y.2.1 P N → (0 < m ∨ x.2.2 = y.2.2) → (itr (drS r P N F) m k x).2.2 = (itr (drS q P N F) m k y).2.2 := by
  intro m
  induction m with
  | zero =>
    intro k x y h1 h2 h3
    rcases h3 with z | z
    · omega
    · exact z
  | succ m ih =>
    intro k x y h1 h2 h3
    have e : dfl_ r x.1 = dfl_ q y.1 := by unfold dfl_; rw [h1, hr.1 2 (by omega)]
    refine ih (k + 1) _ _ (congrArg drw h1) ?_ (Or.inr ?_)
    · show agR (dayR r x.2.1 P N F (nI 0) (dfl_ r x.1) (r 0)) (dayR q y.2.1 P N F (nI 0) (dfl_ q y.1) (q 0)) P N
      rw [e, hr.1 0 (by omega)]
      exact (ag_day hr h2 hP5 _ _ _).1
    · show oi (dWt r x.2.1 P N (dfl_ r x.1)) = oi (dWt q y.2.1 P N (dfl_ q y.1))
      rw [e, ag_dWt hr h2]
set_option maxRecDepth 100000 in
set_option maxHeartbeats 400000 in
theorem nz_p : ((65537 : Int32) = 0) = False := eq_false (by decide)
set_option maxRecDepth 100000 in
set_option maxHeartbeats 400000 in
theorem nz_h : (nI 100 = 0) = False := eq_false (by decide)
section DR
variable {S S0 : Mem} {J : MeJ} {T : Nat → Nat} {t P N F U E : Nat}
set_option maxRecDepth 100000 in
set_option maxHeartbeats 400000 in
theorem l_draws (htl : tlA t) (ht0 : 56 ≤ t) {r : Row} (hT : TbS r P N) (hF : r 5 = nI F) (hF8 : F ≤ 8) {M D : Nat} (hM : M ≤ 60) (hD : D ≤ 2000) : ∀ m k g S1 q, k + m = M → m < g → S1 t = r → S1 49 = q.2.1 → S1 53 1 = q.2.2 → Inv q.2.1 P N (D + k) → ∃ S', lX0_dishByDraws_14 g 47 t (nI M) q.1 (nI k) (hp S1 J T) = some ((itr (drS r P N F) m k q).2.2, hp S' J T) ∧ fr S1 S' [49, 53] := by
  intro m
  induction m with
  | zero =>
    intro k g S1 q hk hg h1 h2 h3 h4
    obtain ⟨g, rfl⟩ : ∃ x, g = x + 1 := ⟨g - 1, by omega⟩
    obtain rfl : k = M := by omega
    refine ⟨S1, ?_, fr_rf _ _⟩
    unfold lX0_dishByDraws_14
    simp (disch := omega) only [fX0_dishByDraws_14, fX0_dishByDraws_74, lt_eq, Nat.lt_irrefl, ↓reduceIte, ch_f3, ml_g1 mlA_53, h3, Option.bind_some]
    rfl
  | succ m ih =>
    intro k g S1 q hk hg h1 h2 h3 h4
    obtain ⟨g, rfl⟩ : ∃ x, g = x + 1 := ⟨g - 1, by omega⟩
    obtain ⟨S2, k1, k2, k3, k4⟩ := y_hold (S := S1) (J := J) (T := T) (a := 49) (m := 53) (t := t) (P := P) (N := N) (F := F) (D := D + k) (bes := nI 0) (fl := dfl_ r q.1) mlA_53 plA_49 htl (by omega) (by omega) (by omega) (by rw [h1]; exact hT) (by rw [h1]; exact hF) hF8 (by rw [h2]; exact h4)
    rw [h1] at k1
    rw [h1, h2] at k2 k3
    obtain ⟨S3, a1, a2⟩ := ih (k + 1) g S2 (drS r P N F k q) (by omega) (by omega) (by rw [k4 t (by simp; omega)]; exact h1) k2 k3 (day_inv hT h4 (by omega) hT.2.2.2.2.1)
    refine ⟨S3, ?_, fr_tr k4 a2⟩
    refine Eq.trans ?_ a1
    have e2 : S1 t 2 = r 2 := by rw [h1]
    have e0 : S1 t 0 = r 0 := by rw [h1]
    conv => lhs; unfold lX0_dishByDraws_14
    cases hfl : dfl_ r q.1 with
    | true =>
      rw [hfl, bI_t] at k1
      have hc : hnd (drw q.1) < r 2 := of_decide_eq_true hfl
      unfold hnd drw at hc
      show _ = lX0_dishByDraws_14 g 47 t (nI M) (drw q.1) (nI (k + 1)) (hp S2 J T)
      simp (disch := omega) only [fX0_dishByDraws_14, fX0_dishByDraws_21, fX0_dishByDraws_29, fX0_dishByDraws_31, fX0_dishByDraws_56, fX0_dishByDraws_61, fX0_dishByDraws_65, fX0_dishByDraws_68, lt_eq, show k < M by omega, ↓reduceIte, nz_p, nz_h, kB_75, kB_74, kB_100, kI_0, kI_1, ch_f2, ch_f3, tl_g2 htl, tl_g0 htl, e2, e0, hc, ml_isO mlA_53, Option.bind_some, nI_add, k1, drw]
    | false =>
      rw [hfl, bI_f] at k1
      have hc : ¬ hnd (drw q.1) < r 2 := of_decide_eq_false hfl
      unfold hnd drw at hc
      show _ = lX0_dishByDraws_14 g 47 t (nI M) (drw q.1) (nI (k + 1)) (hp S2 J T)
      simp (disch := omega) only [fX0_dishByDraws_14, fX0_dishByDraws_21, fX0_dishByDraws_29, fX0_dishByDraws_31, fX0_dishByDraws_60, fX0_dishByDraws_61, fX0_dishByDraws_65, fX0_dishByDraws_68, lt_eq, show k < M by omega, ↓reduceIte, nz_p, nz_h, kB_75, kB_74, kB_100, kI_0, kI_1, ch_f2, ch_f3, tl_g2 htl, tl_g0 htl, e2, e0, hc, ml_isO mlA_53, Option.bind_some, nI_add, k1, drw]
set_option maxRecDepth 100000 in
set_option maxHeartbeats 400000 in
theorem l_drawn {r : Row} (hT : TbS r P N) (hF : r 5 = nI F) (hF8 : F ≤ 8) {M D : Nat} (hM : M ≤ 60) (hD : D ≤ 2000) : ∀ m k g S1 q, k + m = M → m < g → S1 170 = r → S1 175 = q.2.1 → S1 167 26 = q.2.2 → Inv q.2.1 P N (D + k) → ∃ S', lX11_drawn_59 g 167 (nI M) q.1 (nI k) (hp S1 J T) = some ((itr (drS r P N F) m k q).2.2, hp S' J T) ∧ mfr S1 S' := by
  intro m
  induction m with
  | zero =>
    intro k g S1 q hk hg h1 h2 h3 h4
    obtain ⟨g, rfl⟩ : ∃ x, g = x + 1 := ⟨g - 1, by omega⟩
    obtain rfl : k = M := by omega
    refine ⟨S1, ?_, fr_rf _ _, fun _ _ _ => rfl⟩
    unfold lX11_drawn_59
    simp (disch := omega) only [fX11_drawn_59, fX11_drawn_113, lt_eq, Nat.lt_irrefl, ↓reduceIte, mo_g26, h3, Option.bind_some]
    rfl
  | succ m ih =>
    intro k g S1 q hk hg h1 h2 h3 h4
    obtain ⟨g, rfl⟩ : ∃ x, g = x + 1 := ⟨g - 1, by omega⟩
    obtain ⟨S2, k1, k2, k3, k4, k5⟩ := m_day (S := S1) (J := J) (T := T) (w := 175) (P := P) (N := N) (F := F) (D := D + k) (bes := nI 0) (fl := dfl_ r q.1) rwA_175 (by omega) (by omega) (by omega) (by omega) (by rw [h1]; exact hT) (by rw [h1]; exact hF) hF8 (by rw [h2]; exact h4) (by omega)
    rw [h1, h2] at k2 k3
    obtain ⟨S3, a1, a2⟩ := ih (k + 1) g S2 (drS r P N F k q) (by omega) (by omega) (by rw [k5 170 (by decide)]; exact h1) k2 (by rw [k3, up_eq]; rfl) (day_inv hT h4 (by omega) hT.2.2.2.2.1)
    refine ⟨S3, ?_, mfr_tr ⟨fr_mo k5 (by decide), fun j z1 z2 => by rw [k3, up_ne z2, up_ne z1]⟩ a2⟩
    refine Eq.trans ?_ a1
    have e2 : S1 170 2 = r 2 := by rw [h1]
    conv => lhs; unfold lX11_drawn_59
    cases hfl : dfl_ r q.1 with
    | true =>
      rw [hfl, bI_t] at k1
      have hc : hnd (drw q.1) < r 2 := of_decide_eq_true hfl
      unfold hnd drw at hc
      show _ = lX11_drawn_59 g 167 (nI M) (drw q.1) (nI (k + 1)) (hp S2 J T)
      simp (disch := omega) only [fX11_drawn_59, fX11_drawn_65, fX11_drawn_73, fX11_drawn_76, fX11_drawn_99, fX11_drawn_104, fX11_drawn_107, lt_eq, show k < M by omega, ↓reduceIte, nz_p, nz_h, kB_75, kB_74, kB_100, kI_0, kI_1, kI_2, mo_isO, mo_f15, mo_f20, mo_r15, e2, hc, Option.bind_some, nI_add, k1, drw]
    | false =>
      rw [hfl, bI_f] at k1
      have hc : ¬ hnd (drw q.1) < r 2 := of_decide_eq_false hfl
      unfold hnd drw at hc
      show _ = lX11_drawn_59 g 167 (nI M) (drw q.1) (nI (k + 1)) (hp S2 J T)
      simp (disch := omega) only [fX11_drawn_59, fX11_drawn_65, fX11_drawn_73, fX11_drawn_76, fX11_drawn_103, fX11_drawn_104, fX11_drawn_107, lt_eq, show k < M by omega, ↓reduceIte, nz_p, nz_h, kB_75, kB_74, kB_100, kI_0, kI_1, kI_2, mo_isO, mo_f15, mo_f20, mo_r15, e2, hc, Option.bind_some, nI_add, k1, drw]
set_option maxRecDepth 100000 in
set_option maxHeartbeats 400000 in
theorem q_drawn (h : Rl S T) (p n : Int32) : bth (fun h => gX10_drawn 0 p n h) (fun h => gX11_drawn 167 p n h) S J T := by
  obtain ⟨ht, P, N, F, U, E, hB⟩ := Rl_bas h
  obtain ⟨b1, b2, b3, b4, b5, b6, b7, b8, b9, b10⟩ := id hB
  have hanew : ∀ S1 : Mem, gX11_anew 167 (hp S1 J T) = some (hp (stR S1 167 (nw S1)) J T) := fun S1 => c_anew
  have h14' : ∀ S1, fr S S1 CL → nw S1 14 = bI ht := fun S1 hf => by rw [nw14, hf 167 (by decide)]; exact b7
  cases hin : inB n (nI 1) (nI 60) with
  | false =>
    have hno : (ht && inB n (nI 1) (nI 60)) = false := by rw [hin, Bool.and_false]
    have hw2 : why ht false = why ht (inB n (nI 1) (nI 60)) := by rw [hin]
    refine bth_q h (v := m1) (tr := why ht false) (cq_no ?_) (fun S1 hf => mq_no (X := up (nw S1) 11 (why ht false)) ?_ up_eq (nw_p S1 _)) (why_4 _ _)
    · rw [hw2]
      simp (disch := omega) only [gX10_drawn, fX10_drawn_0, fX10_drawn_2, fX10_drawn_5, fX10_drawn_9, fX10_drawn_12, fX10_drawn_15, fX10_drawn_17, fX10_drawn_19, fX10_drawn_22, fX10_drawn_25, fX10_drawn_28, fX10_drawn_30, fX10_drawn_33, fX10_drawn_34, fX10_drawn_49, fX10_drawn_52, fX10_drawn_55, lt_isO, kI_1, kB_60, kI_n, kI_0, kI_2, lt_f4, lt_f9, lt_f8, ch_isO, Option.bind_some, n35, n9, n19, n51, n59, nI_add, ix2, ix8, ix22, ix5, ↓reduceIte, lt_isO, c_lacksTable b1 b3 b5, b8, c_isRefused, hno, Bool.not_false, bI_t, n1_0]
    · have hwn : (why ht false = 0) = False := why_ne (by rw [Bool.and_false])
      have hcw := c_why (S := stR S1 167 (nw S1)) (J := J) (T := T) (a := ht) (b := false)
      rw [bI_f] at hcw
      cases hs : inB p (nI 0) 65536 with
      | true => simp (disch := omega) only [gX11_drawn, fX11_drawn_0, fX11_drawn_1, fX11_drawn_4, fX11_drawn_11, fX11_drawn_14, fX11_drawn_17, fX11_drawn_20, fX11_drawn_24, fX11_drawn_27, fX11_drawn_30, fX11_drawn_34, fX11_drawn_35, fX11_drawn_38, fX11_drawn_43, fX11_drawn_45, fX11_drawn_48, fX11_drawn_49, fX11_drawn_50, fX11_drawn_53, fX11_drawn_59, fX11_drawn_65, fX11_drawn_73, fX11_drawn_76, fX11_drawn_99, fX11_drawn_103, fX11_drawn_104, fX11_drawn_107, fX11_drawn_113, mo_isO, mo_g14, kI_0, kI_1, kB_60, kB_75, kB_74, mo_f20, mo_r20, kB_100, mo_f15, mo_r15, kI_2, mo_g26, Option.bind_some, n35, n9, n19, n51, n59, nI_add, ix2, ix8, ix22, ix5, ↓reduceIte, hanew, stR_eq, h14' S1 hf, c_in, hs, hin, bI_t, bI_f, n0_0, n1_0, hcw, hwn, c_no, stR_stR]
      | false => simp (disch := omega) only [gX11_drawn, fX11_drawn_0, fX11_drawn_1, fX11_drawn_4, fX11_drawn_11, fX11_drawn_14, fX11_drawn_17, fX11_drawn_20, fX11_drawn_24, fX11_drawn_27, fX11_drawn_30, fX11_drawn_34, fX11_drawn_35, fX11_drawn_38, fX11_drawn_43, fX11_drawn_45, fX11_drawn_48, fX11_drawn_49, fX11_drawn_50, fX11_drawn_53, fX11_drawn_59, fX11_drawn_65, fX11_drawn_73, fX11_drawn_76, fX11_drawn_99, fX11_drawn_103, fX11_drawn_104, fX11_drawn_107, fX11_drawn_113, mo_isO, mo_g14, kI_0, kI_1, kB_60, kB_75, kB_74, mo_f20, mo_r20, kB_100, mo_f15, mo_r15, kI_2, mo_g26, Option.bind_some, n35, n9, n19, n51, n59, nI_add, ix2, ix8, ix22, ix5, ↓reduceIte, hanew, stR_eq, h14' S1 hf, c_in, hs, hin, bI_t, bI_f, n0_0, n1_0, hcw, hwn, c_no, stR_stR]
  | true =>
    cases hs : inB p (nI 0) 65536 with
    | false =>
      refine bth_q h (v := m1) (tr := why ht false) (cq_no ?_) (fun S1 hf => mq_no (X := up (nw S1) 11 (why ht false)) ?_ up_eq (nw_p S1 _)) (why_4 _ _)
      · cases ht with
        | false =>
          have hno : (false && inB n (nI 1) (nI 60)) = false := rfl
          simp (disch := omega) only [gX10_drawn, fX10_drawn_0, fX10_drawn_2, fX10_drawn_5, fX10_drawn_9, fX10_drawn_12, fX10_drawn_15, fX10_drawn_17, fX10_drawn_19, fX10_drawn_22, fX10_drawn_25, fX10_drawn_28, fX10_drawn_30, fX10_drawn_33, fX10_drawn_34, fX10_drawn_49, fX10_drawn_52, fX10_drawn_55, lt_isO, kI_1, kB_60, kI_n, kI_0, kI_2, lt_f4, lt_f9, lt_f8, ch_isO, Option.bind_some, n35, n9, n19, n51, n59, nI_add, ix2, ix8, ix22, ix5, ↓reduceIte, lt_isO, c_lacksTable b1 b3 b5, b8, c_isRefused, hno, Bool.not_false, bI_t, n1_0]
          rfl
        | true =>
          have hlk := c_lack1 (J := J) hB
          simp (disch := omega) only [gX10_drawn, fX10_drawn_0, fX10_drawn_2, fX10_drawn_5, fX10_drawn_9, fX10_drawn_12, fX10_drawn_15, fX10_drawn_17, fX10_drawn_19, fX10_drawn_22, fX10_drawn_25, fX10_drawn_28, fX10_drawn_30, fX10_drawn_33, fX10_drawn_34, fX10_drawn_49, fX10_drawn_52, fX10_drawn_55, lt_isO, kI_1, kB_60, kI_n, kI_0, kI_2, lt_f4, lt_f9, lt_f8, ch_isO, Option.bind_some, n35, n9, n19, n51, n59, nI_add, ix2, ix8, ix22, ix5, ↓reduceIte, lt_isO, hlk, c_isRef1 hin, c_isOutside, hs, n0_0, n1_0, Bool.not_false, bI_t, c_refuse, stR_stR, stR_eq, up_up]
          rfl
      · have hwn : (why ht false = 0) = False := why_ne (by rw [Bool.and_false])
        have hcw := c_why (S := stR S1 167 (nw S1)) (J := J) (T := T) (a := ht) (b := false)
        rw [bI_f] at hcw
        simp (disch := omega) only [gX11_drawn, fX11_drawn_0, fX11_drawn_1, fX11_drawn_4, fX11_drawn_11, fX11_drawn_14, fX11_drawn_17, fX11_drawn_20, fX11_drawn_24, fX11_drawn_27, fX11_drawn_30, fX11_drawn_34, fX11_drawn_35, fX11_drawn_38, fX11_drawn_43, fX11_drawn_45, fX11_drawn_48, fX11_drawn_49, fX11_drawn_50, fX11_drawn_53, fX11_drawn_59, fX11_drawn_65, fX11_drawn_73, fX11_drawn_76, fX11_drawn_99, fX11_drawn_103, fX11_drawn_104, fX11_drawn_107, fX11_drawn_113, mo_isO, mo_g14, kI_0, kI_1, kB_60, kB_75, kB_74, mo_f20, mo_r20, kB_100, mo_f15, mo_r15, kI_2, mo_g26, Option.bind_some, n35, n9, n19, n51, n59, nI_add, ix2, ix8, ix22, ix5, ↓reduceIte, hanew, stR_eq, h14' S1 hf, c_in, hs, hin, bI_t, bI_f, n0_0, n1_0, hcw, hwn, c_no, stR_stR]
    | true =>
      cases ht with
      | false =>
        have hno : (false && inB n (nI 1) (nI 60)) = false := rfl
        refine bth_q h (v := m1) (tr := nI 1) (cq_no ?_) (fun S1 hf => mq_no (X := up (nw S1) 11 (nI 1)) ?_ up_eq (nw_p S1 _)) n1_4
        · simp (disch := omega) only [gX10_drawn, fX10_drawn_0, fX10_drawn_2, fX10_drawn_5, fX10_drawn_9, fX10_drawn_12, fX10_drawn_15, fX10_drawn_17, fX10_drawn_19, fX10_drawn_22, fX10_drawn_25, fX10_drawn_28, fX10_drawn_30, fX10_drawn_33, fX10_drawn_34, fX10_drawn_49, fX10_drawn_52, fX10_drawn_55, lt_isO, kI_1, kB_60, kI_n, kI_0, kI_2, lt_f4, lt_f9, lt_f8, ch_isO, Option.bind_some, n35, n9, n19, n51, n59, nI_add, ix2, ix8, ix22, ix5, ↓reduceIte, lt_isO, c_lacksTable b1 b3 b5, b8, c_isRefused, hno, Bool.not_false, bI_t, n1_0]
          rfl
        · have hcw := c_why (S := stR S1 167 (nw S1)) (J := J) (T := T) (a := false) (b := true)
          have hw1 : why false true = nI 1 := rfl
          rw [bI_t, bI_f, hw1] at hcw
          simp (disch := omega) only [gX11_drawn, fX11_drawn_0, fX11_drawn_1, fX11_drawn_4, fX11_drawn_11, fX11_drawn_14, fX11_drawn_17, fX11_drawn_20, fX11_drawn_24, fX11_drawn_27, fX11_drawn_30, fX11_drawn_34, fX11_drawn_35, fX11_drawn_38, fX11_drawn_43, fX11_drawn_45, fX11_drawn_48, fX11_drawn_49, fX11_drawn_50, fX11_drawn_53, fX11_drawn_59, fX11_drawn_65, fX11_drawn_73, fX11_drawn_76, fX11_drawn_99, fX11_drawn_103, fX11_drawn_104, fX11_drawn_107, fX11_drawn_113, mo_isO, mo_g14, kI_0, kI_1, kB_60, kB_75, kB_74, mo_f20, mo_r20, kB_100, mo_f15, mo_r15, kI_2, mo_g26, Option.bind_some, n35, n9, n19, n51, n59, nI_add, ix2, ix8, ix22, ix5, ↓reduceIte, hanew, stR_eq, h14' S1 hf, c_in, hs, hin, bI_t, bI_f, n0_0, n1_0, hcw, c_no, stR_stR]
      | true =>
        have hlk := c_lack1 (J := J) hB
        have hy := b9 rfl
        obtain ⟨k, hk, hk2, rfl⟩ := inB_t (by omega) (by omega) hin
        have hTb : TbS (S (T 0)) P N := TbS_ag hy.2.1 hy.1.1
        generalize hSa : stR S 0 (up (S 0) 11 (nI 0)) = Sa
        have ha0 : Sa 0 = up (S 0) 11 (nI 0) := by rw [← hSa, stR_eq]
        have hae : ∀ c, c ≠ 0 → Sa c = S c := fun c z => by rw [← hSa, stR_ne z]
        have hcp := c_copy (S := Sa) (J := J) (T := T) (a := 49) (b := 139) plA_49 plA_139 (by omega)
        rw [hae 139 (by omega)] at hcp
        have hR : agR (cpR (S 139) (Sa 49) 22) (S 174) P N := agR_cp b5 b6 hy.2.2.2.2.1
        obtain ⟨S', k1, k2⟩ := l_draws (J := J) (T := T) (t := T 0) (P := P) (N := N) (F := F) (M := k) (D := 999) b1 b2 hTb (by rw [hy.2.1.1 5 (by omega)]; exact hy.1.2.2.1) hy.1.2.2.2.1 hk2 (by omega) k 0 FU (stR Sa 49 (cpR (S 139) (Sa 49) 22)) (p, cpR (S 139) (Sa 49) 22, Sa 53 1) (by omega) (FU_lt (by omega)) (by rw [stR_ne (by omega), hae _ (by omega)]) stR_eq (by rw [stR_ne (by omega)]) (Inv_ag hR hy.2.2.2.2.2.1)
        refine bth_q h (v := (itr (drS (S (T 0)) P N F) k 0 (p, cpR (S 139) (Sa 49) 22, Sa 53 1)).2.2) (tr := nI 0) ?_ (fun S1 hf => ?_) n0_4
        · have f0 : S' 0 = up (S 0) 11 (nI 0) := by rw [k2 0 (by decide), stR_ne (by omega), ha0]
          refine ⟨stR S' 0 (up (S' 0) 11 (nI 0)), ?_, fr_st (fr_tr (fr_st (fun c hc => hae c (fun z => hc (by rw [z]; decide))) (by decide)) (fr_mo k2 (by decide))) (by decide), by rw [stR_eq, up_eq], by rw [stR_eq, up_ne (by omega), f0, up_ne (by omega)]⟩
          have k1' : gX0_dishByDraws 47 (T 0) 139 p (nI k) (hp Sa J T) = some ((itr (drS (S (T 0)) P N F) k 0 (p, cpR (S 139) (Sa 49) 22, Sa 53 1)).2.2, hp S' J T) := by
            refine Eq.trans ?_ k1
            simp (disch := omega) only [gX0_dishByDraws, fX0_dishByDraws_0, fX0_dishByDraws_8, fX0_dishByDraws_11, ch_f2, pl_isO plA_49, hcp, kI_0, Option.bind_some]
          simp (disch := omega) only [gX10_drawn, fX10_drawn_0, fX10_drawn_2, fX10_drawn_5, fX10_drawn_9, fX10_drawn_12, fX10_drawn_15, fX10_drawn_17, fX10_drawn_19, fX10_drawn_22, fX10_drawn_25, fX10_drawn_28, fX10_drawn_30, fX10_drawn_33, fX10_drawn_34, fX10_drawn_49, fX10_drawn_52, fX10_drawn_55, lt_isO, kI_1, kB_60, kI_n, kI_0, kI_2, lt_f4, lt_f9, lt_f8, ch_isO, Option.bind_some, n35, n9, n19, n51, n59, nI_add, ix2, ix8, ix22, ix5, ↓reduceIte, lt_isO, ch_isO, lt_f4, lt_f8, lt_f9, hlk, c_isRef1 hin, c_isOutside, hs, n0_0, Bool.not_true, bI_f, hSa, k1', c_answer]
        · have hb1 := c_begin (S := stR S1 167 (nw S1)) (J := J) (T := T)
          generalize hSb : stR (stR S1 167 (nw S1)) 175 (cpR (stR S1 167 (nw S1) 174) (stR S1 167 (nw S1) 175) 22) = Sb at hb1
          have hb175 : Sb 175 = cpR (S 174) (S1 175) 22 := by rw [← hSb, stR_eq, stR_ne (by omega), stR_ne (by omega), hf 174 (by decide)]
          have hR2 : agR (cpR (S 174) (S1 175) 22) (S 174) P N := agR_cp b5 b6 (agR_rf _ _ _)
          obtain ⟨S2, a1, a2⟩ := l_drawn (J := J) (T := T) (r := S 170) (P := P) (N := N) (F := F) (M := k) (D := 999) hy.1.1 hy.1.2.2.1 hy.1.2.2.2.1 hk2 (by omega) k 0 FU Sb (p, cpR (S 174) (S1 175) 22, Sb 167 26) (by omega) (FU_lt (by omega)) (by rw [← hSb, stR_ne (by omega), stR_ne (by omega)]; exact hf 170 (by decide)) hb175 rfl (Inv_ag hR2 hy.2.2.2.2.2.1)
          have hv := dr_ag (r := S (T 0)) (q := S 170) (P := P) (N := N) (F := F) hy.2.1 b5 k 0 (p, cpR (S 139) (Sa 49) 22, Sa 53 1) (p, cpR (S 174) (S1 175) 22, Sb 167 26) rfl (agR_tr hR (agR_sy hR2)) (Or.inl (by omega))
          rw [hv]
          have hm : mfr (stR S1 167 (nw S1)) Sb := by
            rw [← hSb]
            exact ⟨fr_st (fr_rf _ _) (by decide), fun j _ _ => by rw [stR_ne (by omega)]⟩
          obtain ⟨q1, q2, q3⟩ := mfr_q (mfr_tr hm a2)
          refine ⟨S2, ?_, q1, q2, q3⟩
          have hcw := c_why (S := stR S1 167 (nw S1)) (J := J) (T := T) (a := true) (b := true)
          have hw1 : why true true = nI 0 := rfl
          rw [bI_t, hw1] at hcw
          have a1' : lX11_drawn_59 FU 167 (nI k) p (nI 0) (hp Sb J T) = _ := a1
          simp (disch := omega) only [gX11_drawn, fX11_drawn_0, fX11_drawn_1, fX11_drawn_4, fX11_drawn_11, fX11_drawn_14, fX11_drawn_17, fX11_drawn_20, fX11_drawn_24, fX11_drawn_27, fX11_drawn_30, fX11_drawn_34, fX11_drawn_35, fX11_drawn_38, fX11_drawn_43, fX11_drawn_45, fX11_drawn_48, fX11_drawn_49, fX11_drawn_50, fX11_drawn_53, fX11_drawn_59, fX11_drawn_65, fX11_drawn_73, fX11_drawn_76, fX11_drawn_99, fX11_drawn_103, fX11_drawn_104, fX11_drawn_107, fX11_drawn_113, mo_isO, mo_g14, kI_0, kI_1, kB_60, kB_75, kB_74, mo_f20, mo_r20, kB_100, mo_f15, mo_r15, kI_2, mo_g26, Option.bind_some, n35, n9, n19, n51, n59, nI_add, ix2, ix8, ix22, ix5, ↓reduceIte, hanew, stR_eq, h14' S1 hf, c_in, hs, hin, bI_t, n0_0, n1_0, hcw, hb1, a1']
end DR

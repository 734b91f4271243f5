-- QUESTIONS OF NOW AND OF THE NEXT DAY
def gs (r R : Row) (P : Nat) : Int32 := match wn r R P false with
  | none => m1
  | some p => sh r R p
set_option maxRecDepth 100000 in
set_option maxHeartbeats 400000 in
theorem ag_gs {r q R Q : Row} {P N F : Nat} (hr : agT r q P N F) (h : agR R Q P N) : gs r R P = gs q Q P := by
  unfold gs
  rw [← ag_wn hr h false]
  cases e : wn r R P false with
  | none => rfl
  | some p => exact ag_sh hr h (wn_lt p e)
set_option maxRecDepth 100000 in
set_option maxHeartbeats 400000 in
theorem inB_f {v : Int32} {lo hi j : Nat} (h : inB v (nI lo) (nI hi) = false) (h1 : lo ≤ j) (h2 : j ≤ hi) (h3 : hi < 5000) : (v = nI j) = False := by
  refine eq_false (fun z => ?_)
  rw [z, inB_n h1 h2 h3] at h
  cases h
section Q2
variable {S S1 : Mem} {J : MeJ} {T : Nat → Nat} {t a w P N F U E : Nat} {ht : Bool}
set_option maxRecDepth 100000 in
set_option maxHeartbeats 400000 in
theorem c_nextDish (ha : plA a) (htl : tlA t) (hP : S t 3 = nI P) (hP5 : P ≤ 5) (hN : S t 4 = nI N) (hN8 : N ≤ 8) {fl : Bool} : gX7_nextDish a t (bI fl) (hp S J T) = some (oi (dWt (S t) (S a) P N fl), hp S J T) := by
  have hwl : ∀ p, wn (S t) (S a) P fl = some p → p < P := wn_lt
  unfold dWt
  cases e : wn (S t) (S a) P fl with
  | none => simp (disch := omega) only [gX7_nextDish, fX7_nextDish_0, fX7_nextDish_3, fX7_nextDish_6, fX7_nextDish_11, fX7_nextDish_16, fX7_nextDish_20, fX7_nextDish_23, fX7_nextDish_26, pl_isO ha, kB_o, tl_isO htl, Option.bind_some, n35, n9, n19, n51, n59, nI_add, ix2, ix8, ix22, ix5, ↓reduceIte, c_whoNames ha htl hP hP5, e, on_lt]
  | some p =>
    have := hwl p e
    simp (disch := omega) only [gX7_nextDish, fX7_nextDish_0, fX7_nextDish_3, fX7_nextDish_6, fX7_nextDish_11, fX7_nextDish_16, fX7_nextDish_20, fX7_nextDish_23, fX7_nextDish_26, pl_isO ha, kB_o, tl_isO htl, Option.bind_some, n35, n9, n19, n51, n59, nI_add, ix2, ix8, ix22, ix5, ↓reduceIte, c_whoNames ha htl hP hP5, e, oi_some, nI_lt0, c_seenHunger ha htl, c_nameSeen htl hN hN8]
    rfl
set_option maxRecDepth 100000 in
set_option maxHeartbeats 400000 in
theorem l_dawn (hP : S 170 3 = nI P) (hP5 : P ≤ 5) : lX11_dawn_6 FU 167 (nI 0) (hp S J T) = some (hp (stR S 175 (grR (S 170) (S 175) P)) J T) := by
  have hz : hp S J T = hp (stR S 175 (grR (S 170) (S 175) 0)) J T := by rw [grR_0, stR_self]
  rw [hz]
  refine for_at lX11_dawn_6 fX11_dawn_6 (fun _ => rfl) (fun K k (R : Row) => K 167 (nI k) (hp (stR S 175 R) J T)) P (grR (S 170) (S 175)) _ (fun K k hk => ?_) (fun K => ?_) (FU_lt (by omega))
  · cases h1 : bt (S 175 10) k with
    | true =>
      have hl : lv (S 175) k = false := by unfold lv; rw [h1]; rfl
      have hlg : lv (grR (S 170) (S 175) k) k = false := by rw [lv_gr (by omega)]; exact hl
      have hu : up (grR (S 170) (S 175) k) k (S 175 k) = grR (S 170) (S 175) k := by
        conv => lhs; rw [show S 175 k = grR (S 170) (S 175) k k from (grR_ge (Nat.le_refl _)).symm]
        exact up_self
      rw [grR_2 hl]
      simp (disch := omega) only [gX11_dawn, fX11_dawn_0, fX11_dawn_1, fX11_dawn_4, fX11_dawn_6, fX11_dawn_16, fX11_dawn_29, fX11_dawn_32, fX11_dawn_35, fX11_dawn_51, fX11_dawn_52, fX11_dawn_60, mo_isO, kI_0, mo_f15, mo_r15, mo_w15, kI_3, mo_f20, mo_r20, mo_w20, kB_9, kI_2, kI_1, Option.bind_some, n35, n9, n19, n51, n59, nI_add, ix2, ix8, ix22, ix5, ↓reduceIte, rw_r rwA_175, rw_w rwA_175, c_lives rwA_175, stR_ne (show 170 ≠ 175 by omega), stR_eq, hP, lt_eq, hk, hlg, bI_f, n0_0, grR_ge, add0, stS_R, stR_stR, hu]
    | false =>
      have hl : lv (S 175) k = true := by unfold lv; rw [h1]; rfl
      have hlg : lv (grR (S 170) (S 175) k) k = true := by rw [lv_gr (by omega)]; exact hl
      rw [← grR_1 hl]
      simp (disch := omega) only [gX11_dawn, fX11_dawn_0, fX11_dawn_1, fX11_dawn_4, fX11_dawn_6, fX11_dawn_16, fX11_dawn_29, fX11_dawn_32, fX11_dawn_35, fX11_dawn_51, fX11_dawn_52, fX11_dawn_60, mo_isO, kI_0, mo_f15, mo_r15, mo_w15, kI_3, mo_f20, mo_r20, mo_w20, kB_9, kI_2, kI_1, Option.bind_some, n35, n9, n19, n51, n59, nI_add, ix2, ix8, ix22, ix5, ↓reduceIte, rw_r rwA_175, rw_w rwA_175, c_lives rwA_175, stR_ne (show 170 ≠ 175 by omega), stR_eq, hP, lt_eq, hk, hlg, bI_t, n1_0, grR_ge, stS_R, stR_stR]
  · simp (disch := omega) only [gX11_dawn, fX11_dawn_0, fX11_dawn_1, fX11_dawn_4, fX11_dawn_6, fX11_dawn_16, fX11_dawn_29, fX11_dawn_32, fX11_dawn_35, fX11_dawn_51, fX11_dawn_52, fX11_dawn_60, mo_isO, kI_0, mo_f15, mo_r15, mo_w15, kI_3, mo_f20, mo_r20, mo_w20, kB_9, kI_2, kI_1, Option.bind_some, n35, n9, n19, n51, n59, nI_add, ix2, ix8, ix22, ix5, ↓reduceIte, stR_ne (show 170 ≠ 175 by omega), hP, lt_eq, Nat.lt_irrefl]
set_option maxRecDepth 100000 in
set_option maxHeartbeats 400000 in
theorem c_dawn (hP : S 170 3 = nI P) (hP5 : P ≤ 5) : gX11_dawn 167 (hp S J T) = some (hp (stR S 175 (grR (S 170) (cpR (S 174) (S 175) 22) P)) J T) := by
  simp only [gX11_dawn, fX11_dawn_0, fX11_dawn_1, fX11_dawn_4, mo_isO, Option.bind_some, c_begin, kI_0]
  rw [l_dawn (S := stR S 175 (cpR (S 174) (S 175) 22)) (by rw [stR_ne (by omega)]; exact hP) hP5, stR_stR, stR_eq, stR_ne (show 170 ≠ 175 by omega)]
set_option maxRecDepth 100000 in
set_option maxHeartbeats 400000 in
theorem c_seenMost (hP : S 170 3 = nI P) (hP5 : P ≤ 5) : gX11_seenMost 167 (hp S J T) = some (gs (S 170) (cpR (S 174) (S 175) 22) P, hp (stR S 175 (grR (S 170) (cpR (S 174) (S 175) 22) P)) J T) := by
  generalize hR : cpR (S 174) (S 175) 22 = R
  have hd := c_dawn (S := S) (J := J) (T := T) hP hP5
  rw [hR] at hd
  have h1 := (nr_wn (r := S 170) (R := R) hP5).1
  have e0 : wn (S 170) R P false = (itr (wnS (sh (S 170) R) (lv R)) P 0 (none, none)).1 := by
    unfold wn
    cases itr (wnS (sh (S 170) R) (lv R)) P 0 (none, none) with
    | mk f g => rfl
  rw [← e0] at h1
  have hwl : ∀ p, wn (S 170) R P false = some p → p < P := wn_lt
  have hM : stR S 175 (grR (S 170) R P) 170 3 = nI P := by rw [stR_ne (by omega)]; exact hP
  unfold gs
  cases e : wn (S 170) R P false with
  | none =>
    rw [e] at h1
    simp (disch := omega) only [gX11_seenMost, fX11_seenMost_0, fX11_seenMost_1, fX11_seenMost_4, fX11_seenMost_10, fX11_seenMost_13, fX11_seenMost_18, fX11_seenMost_22, fX11_seenMost_34, fX11_seenMost_37, mo_isO, mo_f20, mo_r20, kI_n, Option.bind_some, n35, n9, n19, n51, n59, nI_add, ix2, ix8, ix22, ix5, ↓reduceIte, hd, c_namerOf rwA_175 hM hP5 nav1, stR_eq, stR_ne (show 170 ≠ 175 by omega), h1, on_lt]
  | some p =>
    have hp := hwl p e
    have hlp : lv R p = true := by
      obtain ⟨a1, -⟩ := wn_AM (s := sh (S 170) R) (l := lv R) P
      rw [← e0, e] at a1
      exact a1.2.1
    rw [e] at h1
    simp (disch := omega) only [gX11_seenMost, fX11_seenMost_0, fX11_seenMost_1, fX11_seenMost_4, fX11_seenMost_10, fX11_seenMost_13, fX11_seenMost_18, fX11_seenMost_22, fX11_seenMost_34, fX11_seenMost_37, mo_isO, mo_f20, mo_r20, kI_n, Option.bind_some, n35, n9, n19, n51, n59, nI_add, ix2, ix8, ix22, ix5, ↓reduceIte, hd, c_namerOf rwA_175 hM hP5 nav1, stR_eq, stR_ne (show 170 ≠ 175 by omega), h1, oi_some, nI_lt0, rw_r rwA_175, c_seenOf rwA_175, sh_gr hP5 hp hlp]
set_option maxRecDepth 100000 in
set_option maxHeartbeats 400000 in
theorem c_greatestSeen (htl : tlA (T 0)) (hP : S (T 0) 3 = nI P) (hP5 : P ≤ 5) : gX10_greatestSeen 0 (hp S J T) = some (gs (S (T 0)) (S 139) P, hp S J T) := by
  have hwl : ∀ p, wn (S (T 0)) (S 139) P false = some p → p < P := wn_lt
  unfold gs
  have cw := c_whoNames (S := S) (J := J) (T := T) (fl := false) plA_139 htl hP hP5
  rw [bI_f] at cw
  cases e : wn (S (T 0)) (S 139) P false with
  | none =>
    rw [e] at cw
    simp (disch := omega) only [gX10_greatestSeen, fX10_greatestSeen_0, fX10_greatestSeen_9, fX10_greatestSeen_12, fX10_greatestSeen_17, fX10_greatestSeen_21, fX10_greatestSeen_30, fX10_greatestSeen_33, lt_f8, lt_f9, kI_0, kI_n, Option.bind_some, n35, n9, n19, n51, n59, nI_add, ix2, ix8, ix22, ix5, ↓reduceIte, pl_isO plA_139, cw, on_lt]
  | some p =>
    have := hwl p e
    rw [e] at cw
    simp (disch := omega) only [gX10_greatestSeen, fX10_greatestSeen_0, fX10_greatestSeen_9, fX10_greatestSeen_12, fX10_greatestSeen_17, fX10_greatestSeen_21, fX10_greatestSeen_30, fX10_greatestSeen_33, lt_f8, lt_f9, kI_0, kI_n, Option.bind_some, n35, n9, n19, n51, n59, nI_add, ix2, ix8, ix22, ix5, ↓reduceIte, pl_isO plA_139, cw, oi_some, nI_lt0, c_seenHunger plA_139 htl]
    rfl
-- left
set_option maxRecDepth 100000 in
set_option maxHeartbeats 400000 in
theorem q_left (h : Rl S T) : bth (fun h => gX10_left 0 h) (fun h => gX11_left 167 h) S J T := by
  obtain ⟨ht, P, N, F, U, E, hB⟩ := Rl_bas h
  obtain ⟨b1, b2, b3, b4, b5, b6, b7, b8, b9, b10⟩ := id hB
  cases ht with
  | false =>
    have hl : gX10_lacksTable 0 (hp S J T) = some (nI 1, hp S J T) := by rw [c_lacksTable b1 b3 b5, b8]; rfl
    refine bth_q h (v := m1) (tr := nI 1) (cq_no ?_) (fun S1 hf => mq_no (X := up (nw S1) 11 (nI 1)) ?_ up_eq (nw_p S1 _)) n1_4
    · simp (disch := omega) only [gX10_left, fX10_left_0, fX10_left_1, fX10_left_4, fX10_left_7, fX10_left_9, fX10_left_12, fX10_left_13, fX10_left_21, fX10_left_24, lt_isO, kI_1, lt_f8, Option.bind_some, n35, n9, n19, n51, n59, nI_add, ix2, ix8, ix22, ix5, ↓reduceIte, hl, n1_0, c_refuse]
    · have h14 : S1 167 14 = nI 0 := by rw [hf 167 (by decide)]; exact b7
      simp (disch := omega) only [gX11_left, fX11_left_0, fX11_left_1, fX11_left_4, fX11_left_11, fX11_left_21, fX11_left_23, fX11_left_26, mo_isO, mo_g14, mo_f19, mo_r19, kB_12, kI_1, Option.bind_some, n35, n9, n19, n51, n59, nI_add, ix2, ix8, ix22, ix5, ↓reduceIte, c_anew, stR_eq, up_ne, h14, n0_0, c_no, stR_stR, nw]
  | true =>
    have hy := b9 rfl
    refine bth_q h (v := S 174 12) (tr := nI 0) (cq_no ?_) (fun S1 hf => mq_no (X := nw S1) ?_ up_eq (nw_q S1)) n0_4
    · rw [← hy.2.2.2.2.1.2.1 12 (by omega) (by omega)]
      simp (disch := omega) only [gX10_left, fX10_left_0, fX10_left_1, fX10_left_4, fX10_left_7, fX10_left_9, fX10_left_12, fX10_left_13, fX10_left_21, fX10_left_24, lt_isO, kI_1, lt_f8, Option.bind_some, n35, n9, n19, n51, n59, nI_add, ix2, ix8, ix22, ix5, ↓reduceIte, c_lack1 hB, n0_0, pl_g5 plA_139, c_answer]
    · have h14 : S1 167 14 = nI 1 := by rw [hf 167 (by decide)]; exact b7
      rw [← hf 174 (by decide)]
      simp (disch := omega) only [gX11_left, fX11_left_0, fX11_left_1, fX11_left_4, fX11_left_11, fX11_left_21, fX11_left_23, fX11_left_26, mo_isO, mo_g14, mo_f19, mo_r19, kB_12, kI_1, Option.bind_some, n35, n9, n19, n51, n59, nI_add, ix2, ix8, ix22, ix5, ↓reduceIte, c_anew, stR_eq, up_ne, h14, n1_0, rw_r rwA_174, stR_ne (show 174 ≠ 167 by omega), nw]
end Q2

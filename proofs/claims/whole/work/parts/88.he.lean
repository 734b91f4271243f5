-- HEARSAY: a set by the class; judge
section HE6
variable {S S1 : Mem} {J : MeJ} {T : Nat → Nat} {t a w P N F U E D : Nat} {ht : Bool}
set_option maxRecDepth 100000 in
set_option maxHeartbeats 400000 in
theorem y_bg (hy : Yes S t P N F U E) (X Y : Row) (s : Nat) : agR (bgC (S t) X s U) (bgM (S 170) (S 172) Y s U) P N := by
  obtain ⟨y1, y2, y3, y4, y5, y6, y7, y8⟩ := hy
  exact bg_ag y1.1.2.1 y1.1.2.2.2.1 y3 y1.2.2.2.2.2.2.2.2.2.2.2.2.1 (fun p hpP => (y4.1 p hpP).1) (fun k hk => (y4.2.1 k hk).1) y4.2.2
set_option maxRecDepth 100000 in
set_option maxHeartbeats 400000 in
theorem bF_cg {p q : Nat → Bool} {E : Nat} (h : ∀ k, k < E → p k = q k) : bF p E 0 = bF q E 0 := fst1_uni (fst1_cg (bF_fst1 (p := p) E 0 (by omega) (fun j hj => by omega)) h) (bF_fst1 E 0 (by omega) (fun j hj => by omega))
set_option maxRecDepth 100000 in
set_option maxHeartbeats 400000 in
theorem c_unlike {S0 : Mem} (htl : tlA t) (ht0 : 56 ≤ t) (hy : Yes S t P N F U E) (h0t : S0 t = S t) {s : Nat} : ∃ S', gX3_firstUnlike 38 t (nI s) (hp S0 J T) = some (oi (bF (bd (S 170) P N F (bgC (S t) (S0 40) s U) (hdF (S 170))) E 0), hp S' J T) ∧ fr S0 S' [39, 40, 44] := by
  have hag := y_bg hy (S0 40) (S 175) s
  obtain ⟨y1, y2, y3, y4, y5, y6, y7, y8⟩ := id hy
  obtain ⟨x1, x2, x3, x4, x5, x6, x7, x8, x9, x10, x11, x12, x13, x14, x15⟩ := id y1
  have hP5 := x1.2.1
  have hI : Inv (bgC (S t) (S0 40) s U) P N 999 := Inv_ag hag (bg_inv y1 (fun p hpP => (y4.1 p hpP).2) (fun k hk => (y4.2.1 k hk).2) y4.2.2)
  have hTt : TbS (S t) P N := TbS_ag y2 x1
  have hFt : S t 5 = nI F := by rw [y2.1 5 (by omega)]; exact x3
  have hUt : S t 6 = nI U := by rw [y2.1 6 (by omega)]; exact x5
  have hEt : S t 7 = nI E := by rw [y2.1 7 (by omega)]; exact x7
  have hd := hdF_e y1
  have hdt : ∀ k, k < E → 1 ≤ hdF (S 170) k ∧ hdF (S 170) k ≤ 60 ∧ S t (60 + 2 * k) = nI (hdF (S 170) k) := fun k hk => ⟨(hd k hk).1, (hd k hk).2.1, by rw [(y3.2 k hk).2]; exact (hd k hk).2.2⟩
  obtain ⟨L, l1, l2, l3⟩ := c_lastHeard (S := S0) (J := J) (T := T) htl (by rw [h0t]; exact hEt) x8 (f := hdF (S 170)) (fun k hk => by rw [h0t]; exact (hdt k hk).2)
  have hb := c_begin7 (S := S0) (J := J) (T := T) (a := 40) (t := t) (s := s) plA_40 htl (by omega) (by rw [h0t]; exact hUt) x6 (fun k hk => by
    rw [h0t, (y3.1 k hk).1]
    obtain ⟨p, a, b⟩ := x13 k hk
    exact ⟨p, by omega, b⟩)
  rw [h0t] at hb
  obtain ⟨S', k1, k2, k3⟩ := l_hdays (S := S0) (J := J) (T := T) (t := t) (P := P) (N := N) (F := F) (D := 999) htl ht0 (by rw [h0t]; exact hTt) (by rw [h0t]; exact hFt) x4 hI (by omega) l2 L 0 FU (stR S0 40 (bgC (S t) (S0 40) s U)) (by omega) (FU_lt (by omega)) stR_eq (fun d a b => by omega) (fr_st (fr_rf S0 _) (by decide))
  rw [h0t] at k2
  have et : S' t = S t := by rw [k3 t (by simp; omega), h0t]
  have hf := l_find (S := S') (J := J) (T := T) (P := P) (N := N) (F := F) (f := hdF (S 170)) (R := bgC (S t) (S0 40) s U) htl (by rw [et]; exact hEt) x8 (by rw [et]; exact hdt) (fun k hk => by rw [et]; exact k2 _ (hd k hk).1 (l3 k hk)) E 0 FU (by omega) (FU_lt (by omega))
  rw [et, bF_cg (fun k hk => bd_ag y2 (agR_rf _ P N) hP5 y3 k hk)] at hf
  refine ⟨S', ?_, k3⟩
  rw [← hf]
  have hmin : (if nI 60 < nI L then nI 60 else nI L) = nI L := by
    rw [if_neg (by rw [lt_eq (by omega) (by omega)]; omega)]
  have e66 : fX3_firstUnlike_66 38 t (hp S' J T) = lX3_firstUnlike_69 FU 38 t (nI 0) (hp S' J T) := by simp only [fX3_firstUnlike_66, kI_0]
  rw [← e66, ← k1]
  simp (disch := omega) only [gX3_firstUnlike, fX3_firstUnlike_0, fX3_firstUnlike_1, fX3_firstUnlike_4, fX3_firstUnlike_6, fX3_firstUnlike_9, fX3_firstUnlike_16, fX3_firstUnlike_19, tl_isO htl, l1, kB_60, hmin, he_f5, pl_isO plA_40, hb, Option.bind_some, kI_1, Nat.zero_add]
set_option maxRecDepth 100000 in
set_option maxHeartbeats 400000 in
theorem q_judge (h : Rl S T) : bth (fun h => gX10_judge 0 h) (fun h => gX11_judge 167 h) S J T := by
  obtain ⟨ht, P, N, F, U, E, hB⟩ := Rl_bas h
  obtain ⟨b1, b2, b3, b4, b5, b6, b7, b8, b9, b10⟩ := id hB
  have hanew : ∀ S1 : Mem, gX11_anew 167 (hp S1 J T) = some (hp (stR S1 167 (nw S1)) J T) := fun S1 => c_anew
  cases ht with
  | false =>
    refine bth_q h (v := m1) (tr := nI 1) (cq_no ?_) (fun S1 hf => mq_no (X := up (nw S1) 11 (nI 1)) ?_ up_eq (nw_p S1 _)) n1_4
    · simp (disch := omega) only [gX10_judge, fX10_judge_0, fX10_judge_1, fX10_judge_4, fX10_judge_7, fX10_judge_9, fX10_judge_12, fX10_judge_13, fX10_judge_23, fX10_judge_26, fX10_judge_29, lt_isO, kI_1, lt_f3, lt_f9, kI_0, he_isO, Option.bind_some, n35, n9, n19, n51, n59, nI_add, ix2, ix8, ix22, ix5, ↓reduceIte, lt_isO, c_lacksTable b1 b3 b5, b8, Bool.not_false, bI_t, n1_0, c_refuse]
    · have h14 : nw S1 14 = nI 0 := by rw [nw14, hf 167 (by decide)]; exact b7
      simp (disch := omega) only [gX11_judge, fX11_judge_0, fX11_judge_1, fX11_judge_4, fX11_judge_11, fX11_judge_13, fX11_judge_16, fX11_judge_19, fX11_judge_21, fX11_judge_24, mo_isO, mo_g14, kI_0, kI_1, Option.bind_some, n35, n9, n19, n51, n59, nI_add, ix2, ix8, ix22, ix5, ↓reduceIte, hanew, stR_eq, h14, n0_0, c_no, stR_stR]
  | true =>
    have hlk := c_lack1 (J := J) hB
    have hy := b9 rfl
    obtain ⟨S', k1, k2⟩ := c_unlike (S := S) (S0 := S) (J := J) (T := T) (s := 0) b1 b2 hy rfl
    refine bth_q h (v := oi (bF (bd (S 170) P N F (bgC (S (T 0)) (S 40) 0 U) (hdF (S 170))) E 0)) (tr := nI 0) ?_ (fun S1 hf => ?_) n0_4
    · have f0 : S' 0 = S 0 := k2 0 (by decide)
      refine ⟨stR S' 0 (up (S' 0) 11 (nI 0)), ?_, fr_st (fr_mo k2 (by decide)) (by decide), by rw [stR_eq, up_eq], by rw [stR_eq, up_ne (by omega), f0]⟩
      simp (disch := omega) only [gX10_judge, fX10_judge_0, fX10_judge_1, fX10_judge_4, fX10_judge_7, fX10_judge_9, fX10_judge_12, fX10_judge_13, fX10_judge_23, fX10_judge_26, fX10_judge_29, lt_isO, kI_1, lt_f3, lt_f9, kI_0, he_isO, Option.bind_some, n35, n9, n19, n51, n59, nI_add, ix2, ix8, ix22, ix5, ↓reduceIte, lt_isO, he_isO, hlk, n0_0, k1, c_answer]
    · have h14 : nw S1 14 = nI 1 := by rw [nw14, hf 167 (by decide)]; exact b7
      obtain ⟨S2, w1, w2⟩ := c_wrong (S := S) (S0 := stR S1 167 (nw S1)) (J := J) (T := T) (s := 0) hy (by rw [stR_ne (by omega)]; exact hf 170 (by decide)) (by rw [stR_ne (by omega)]; exact hf 172 (by decide)) (y_bg hy (S 40) (stR S1 167 (nw S1) 175) 0)
      obtain ⟨q1, q2, q3⟩ := mfr_q w2
      refine ⟨S2, ?_, q1, q2, q3⟩
      simp (disch := omega) only [gX11_judge, fX11_judge_0, fX11_judge_1, fX11_judge_4, fX11_judge_11, fX11_judge_13, fX11_judge_16, fX11_judge_19, fX11_judge_21, fX11_judge_24, mo_isO, mo_g14, kI_0, kI_1, Option.bind_some, n35, n9, n19, n51, n59, nI_add, ix2, ix8, ix22, ix5, ↓reduceIte, hanew, stR_eq, h14, n1_0, w1]
end HE6

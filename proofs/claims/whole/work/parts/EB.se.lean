-- WHO SHOULD FAST: the class has sought
section SN
variable {S : Mem} {J : MeJ} {T : Nat → Nat} {t P N F U E K n : Nat}
set_option maxRecDepth 100000 in
set_option maxHeartbeats 400000 in
theorem and_sm2 (f : Nat) (z : Int32) (hf : f < 32) : ∃ b, b < 32 ∧ nI f &&& z = nI b := by
  obtain ⟨b, h1, h2⟩ := and_sm f z (by omega)
  exact ⟨b, by omega, h2⟩
set_option maxRecDepth 100000 in
set_option maxHeartbeats 400000 in
theorem c_seekOn (htl : tlA t) (ht0 : 56 ≤ t) (hy : Yes S t P N F U E) (hn : n ≤ 3) (hK : K < 8) : ∀ q d b S1 B, d < n → n - d < q + 1 → soI S S1 t d K n (rwS (S 170) (S 174) P N F b d) P N B → preS (S 170) (S 174) P N F d b → ∃ S' B', gX2_seekOn q 17 t (nI d) (nI b) (hp S1 J T) = some (hp S' J T) ∧ fSt (S' 17) B' ∧ (∀ j, B' = some j → j < 32768) ∧ updG (Gp (S 170) (S 174) P N F K n d b) B B' ∧ soF S1 S' d := by
  have hP5 : P ≤ 5 := hy.1.1.2.1
  have hN8 : N ≤ 8 := hy.1.1.2.2.2.1
  have hT := hy.1.1
  have hI := hy.2.2.2.2.2.1
  have hTt : TbS (S t) P N := TbS_ag hy.2.1 hT
  intro q
  induction q with
  | zero => intro d b S1 B hd hq; omega
  | succ q ih =>
    intro d b S1 B hd hq h1 hpre
    have pa := plA_f d (by omega)
    obtain ⟨a1, a2, a3, a4, a5, a6⟩ := id h1
    have hto : gX2_seekOn (q + 1) 17 t (nI d) (nI b) (hp S1 J T) = fX2_seekOn_41 (gX2_seekOn q) 17 t (nI d) (nI b) (22 + 4 * d) (bI (decide (d + 1 = n))) (hp S1 J T) := by
      show fX2_seekOn_0 (gX2_seekOn q) 17 t (nI d) (nI b) (hp S1 J T) = _
      unfold fX2_seekOn_0
      rw [if_neg (show ¬ nI d < 0 by rw [nI_lt0 (by omega)]; exact fun z => z)]
      unfold fX2_seekOn_4
      rw [se_g6, Option.bind_some, a4, if_pos (show nI d < nI n by rw [lt_eq (by omega) (by omega)]; exact hd)]
      unfold fX2_seekOn_12
      rw [kI_3, if_pos (show nI d < nI 3 by rw [lt_eq (by omega) (by omega)]; omega)]
      unfold fX2_seekOn_18
      obtain ⟨n', rfl⟩ : ∃ x, n = x + 1 := ⟨n - 1, by omega⟩
      rw [se_f3, Option.bind_some, se_r3 (by omega), Option.bind_some, se_g6, Option.bind_some, a4, kI_1, sb1]
      by_cases z : d + 1 = n' + 1
      · rw [if_pos (show nI d = nI n' by rw [show d = n' by omega]), decide_eq_true z]
        unfold fX2_seekOn_36
        rw [kI_1]
        rfl
      · rw [if_neg (show ¬ nI d = nI n' by rw [eq_eq (by omega) (by omega)]; omega), decide_eq_false z]
        unfold fX2_seekOn_40
        rw [kI_0]
        rfl
    have h59 : (d + 1 = n → dWt (S 170) (rwS (S 170) (S 174) P N F b d) P N false = some K) → ∃ S' B', fX2_seekOn_63 (gX2_seekOn q) 17 t (nI d) (nI b) (22 + 4 * d) (bI (decide (d + 1 = n))) (hp S1 J T) = some (hp S' J T) ∧ fSt (S' 17) B' ∧ (∀ j, B' = some j → j < 32768) ∧ updG (Gp (S 170) (S 174) P N F K n d b) B B' ∧ soF S1 S' d := by
      intro hdish
      have hfr := c_free (S := S1) (J := J) (T := T) (a := 22 + 4 * d) (t := t) (F := F) pa htl (by rw [a1, hy.2.1.1 5 (by omega)]; exact hy.1.2.2.1) hy.1.2.2.2.1
      rw [a1, fre_ag hy.2.1 a2] at hfr
      have hen := c_endang (S := S1) (J := J) (T := T) (a := 22 + 4 * d) (t := t) (P := P) pa htl (by rw [a1]; exact hTt.1) hP5
      rw [a1, en_ag hy.2.1 a2 P (Nat.le_refl _)] at hen
      obtain ⟨f0, hf0, ef0⟩ := fre_sm (r := S 170) (R := rwS (S 170) (S 174) P N F b d) (F := F) hT.1 hP5
      have hp32 := (ev_n P hP5).2
      obtain ⟨f, hf, ef⟩ := and_sm2 f0 (enN (S 170) (rwS (S 170) (S 174) P N F b d) P ^^^ m1) (by omega)
      have hfe : sfe (S 170) (rwS (S 170) (S 174) P N F b d) P F = nI f := by unfold sfe; rw [ef0, ef]
      obtain ⟨S2, k1, k2, k3⟩ := c_kA (S := S) (J := J) (T := T) (S1 := S1) (d := d) (D := 999 + d) htl ht0 hy (by omega) a1 a2 (rwS_inv hT hI d (by omega)) (x := nI f)
      have hf2 : soF S1 S2 d := ⟨fun j hj => by rw [k3 17 (by simp; omega)], fun c c1 c2 c3 => k3 c (by simp; exact ⟨c3 (d + 1) (by omega) (by omega), c2⟩)⟩
      have f17 : S2 17 = S1 17 := k3 17 (by simp; omega)
      have hgo : fX2_seekOn_63 (gX2_seekOn q) 17 t (nI d) (nI b) (22 + 4 * d) (bI (decide (d + 1 = n))) (hp S1 J T) = fX2_seekOn_88 (gX2_seekOn q) 17 t (nI d) (nI b) (bI (decide (d + 1 = n))) (nI f) (bI (decide (dayR (S 170) (rwS (S 170) (S 174) P N F b d) P N F (nI f) false (S 170 0) 10 = rwS (S 170) (S 174) P N F b d 10))) (hp S2 J T) := by
        unfold fX2_seekOn_63 fX2_seekOn_66
        rw [pl_isO pa, Option.bind_some, hfr, Option.bind_some]
        unfold fX2_seekOn_69 fX2_seekOn_72
        rw [pl_isO pa, Option.bind_some, hen, Option.bind_some]
        unfold fX2_seekOn_75
        rw [kI_n, ef0, ef]
        unfold fX2_seekOn_85
        rw [se_isO, Option.bind_some, k1, Option.bind_some]
      rw [hgo]
      unfold fX2_seekOn_88
      by_cases hkp : dayR (S 170) (rwS (S 170) (S 174) P N F b d) P N F (nI f) false (S 170 0) 10 = rwS (S 170) (S 174) P N F b d 10
      · rw [decide_eq_true hkp, if_neg (show ¬ bI true = 0 by decide)]
        unfold fX2_seekOn_92
        rw [kI_0]
        obtain ⟨S3, B3, c1, c2, c3, c4, c5⟩ := l_so (S := S) (J := J) (T := T) (K := K) (q := q) htl ht0 hy hn hd hpre hf hfe hdish (fun h2 b1 S4 B4 i1 i2 => ih (d + 1) b1 S4 B4 h2 (by omega) i1 i2) (f + 1) 0 FU S2 B (by omega) (FU_lt (by omega)) (soI_st ht0 (by omega) h1 hf2 (by rw [f17]; exact a5) a6)
        exact ⟨S3, B3, c1, c2, c3, upd_cg (fun s => ⟨fun z => z.1, fun z => ⟨z, Nat.zero_le _⟩⟩) c4, soF_tr hf2 c5⟩
      · rw [decide_eq_false hkp, if_pos (show bI false = 0 by decide)]
        refine ⟨S2, B, rfl, by rw [f17]; exact a5, a6, upd_no (fun s hs => hkp ?_), hf2⟩
        have z := good_all hT hI hn hs.1 hd
        rwa [good_row hn (by omega) hs.2, hfe] at z
    rw [hto]
    unfold fX2_seekOn_41
    by_cases hlast : d + 1 = n
    · have hnd := c_nextDish (S := S1) (J := J) (T := T) (a := 22 + 4 * d) (t := t) (fl := false) pa htl (by rw [a1]; exact hTt.1) hP5 (by rw [a1]; exact hTt.2.2.1) hN8
      rw [bI_f, a1, ag_dWt hy.2.1 a2] at hnd
      have hgo : fX2_seekOn_48 (gX2_seekOn q) 17 t (nI d) (nI b) (22 + 4 * d) (bI (decide (d + 1 = n))) (hp S1 J T) = fX2_seekOn_55 (gX2_seekOn q) 17 t (nI d) (nI b) (22 + 4 * d) (bI (decide (d + 1 = n))) (oi (dWt (S 170) (rwS (S 170) (S 174) P N F b d) P N false)) (hp S1 J T) := by
        unfold fX2_seekOn_48 fX2_seekOn_52
        rw [pl_isO pa, Option.bind_some, kI_0, hnd, Option.bind_some]
      have hb1 : ¬ bI (decide (d + 1 = n)) = 0 := by rw [decide_eq_true hlast]; decide
      rw [if_neg hb1, hgo]
      unfold fX2_seekOn_55
      rw [se_g5, Option.bind_some, a3]
      by_cases hdi : oi (dWt (S 170) (rwS (S 170) (S 174) P N F b d) P N false) = nI K
      · rw [if_pos hdi]
        exact h59 (fun _ => (oi_eq (fun k hk => by have := dWt_lt k hk; omega) (by omega)).mp hdi)
      · rw [if_neg hdi]
        refine ⟨S1, B, rfl, a5, a6, upd_no (fun s hs => hdi ?_), soF_rf _ _⟩
        have z := hs.1.2.2.1
        rw [show n - 1 = d by omega, good_row hn (by omega) hs.2] at z
        rw [z]
        rfl
    · have hb1 : bI (decide (d + 1 = n)) = 0 := by rw [decide_eq_false hlast]; decide
      rw [if_pos hb1]
      exact h59 (fun z => absurd z hlast)
set_option maxRecDepth 100000 in
set_option maxHeartbeats 400000 in
theorem c_seekN (htl : tlA t) (ht0 : 56 ≤ t) (hy : Yes S t P N F U E) (hn : n ≤ 3) (hn0 : 0 < n) (hK : K < 8) {S0 : Mem} (h0t : S0 t = S t) (h0n : S0 139 = S 139) : ∃ S' B, gX2_seekName 17 t 139 (nI K) (nI n) (hp S0 J T) = some (hp S' J T) ∧ fSt (S' 17) B ∧ (∀ j, B = some j → j < 32768) ∧ updG (Good (S 170) (S 174) P N F K n) none B ∧ fr S0 S' [17, 19, 22, 26, 30, 34] := by
  have hP5 : P ≤ 5 := hy.1.1.2.1
  have hN8 : N ≤ 8 := hy.1.1.2.2.2.1
  generalize hX : up (up (up (up (S0 17) 5 (nI K)) 6 (nI n)) 0 (nI 1000)) 1 (nI 0) = X
  have x0 : X 0 = nI 1000 := by rw [← hX, up_ne (by omega), up_eq]
  have x1 : X 1 = nI 0 := by rw [← hX, up_eq]
  have x5 : X 5 = nI K := by rw [← hX, up_ne (by omega), up_ne (by omega), up_ne (by omega), up_eq]
  have x6 : X 6 = nI n := by rw [← hX, up_ne (by omega), up_ne (by omega), up_eq]
  have hcp := c_copy (S := stR S0 17 X) (J := J) (T := T) (a := 22) (b := 139) plA_22 plA_139 (by omega)
  rw [stR_ne (show 139 ≠ 17 by omega), stR_ne (show 22 ≠ 17 by omega), h0n] at hcp
  generalize hSb : stR (stR S0 17 X) 22 (cpR (S 139) (S0 22) 22) = Sb at hcp
  have b17 : Sb 17 = X := by rw [← hSb, stR_ne (by omega), stR_eq]
  have b22 : Sb 22 = cpR (S 139) (S0 22) 22 := by rw [← hSb, stR_eq]
  obtain ⟨S', B, c1, c2, c3, c4, c5⟩ := c_seekOn (S := S) (J := J) (T := T) (K := K) (n := n) htl ht0 hy hn hK 4 0 0 Sb none hn0 (by omega) ⟨by rw [← hSb, stR_ne (by omega), stR_ne (by omega)]; exact h0t, by rw [show 22 + 4 * 0 = 22 by omega, b22]; exact agR_cp hP5 hN8 hy.2.2.2.2.1, by rw [b17]; exact x5, by rw [b17]; exact x6, by rw [b17]; exact ⟨x0, x1⟩, fun j hj => by cases hj⟩ pre_0
  refine ⟨S', B, ?_, c2, c3, upd_cg (fun s => ⟨fun z => z.1, fun z => ⟨z, by show s % 1 = 0; omega⟩⟩) c4, fun c hc => ?_⟩
  · unfold gX2_seekName fX2_seekName_0
    rw [se_p5, Option.bind_some, se_p6, Option.bind_some, se_p0, Option.bind_some, se_p1, Option.bind_some, stS_R, stS_R, stS_R, stS_R, stR_stR, stR_stR, stR_stR, stR_eq, stR_eq, stR_eq, kS_1000, kI_0, hX, se_f3, Option.bind_some, se_r3 (by omega), Option.bind_some]
    unfold fX2_seekName_30
    rw [pl_isO plA_22, Option.bind_some, hcp, Option.bind_some]
    unfold fX2_seekName_33 fX2_seekName_37
    rw [kI_0, c1, Option.bind_some]
    rfl
  · simp only [List.mem_cons, List.not_mem_nil, or_false, not_or] at hc
    rw [c5.2 c hc.1 hc.2.1 (fun e h1 h2 => by omega), ← hSb, stR_ne (by omega), stR_ne (by omega)]
end SN

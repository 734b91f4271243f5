-- THE TEXT: the whole of it, the class
def pEnd (q : PSt) : PR PSt := if q.2.2.1 3 = 0 ∨ anyR q.1 19 (nI 0) (q.2.2.1 4) = false then .inl (6, q.2.2.2) else .inr q
set_option maxRecDepth 100000 in
set_option maxHeartbeats 400000 in
theorem nzI {k : Nat} (h : k < 5000) (h0 : k ≠ 0) : ¬ nI k = 0 := fun z => by
  have z' : nI k = nI 0 := z
  rw [eq_eq (by omega) (by omega)] at z'
  exact h0 z'
section RDA
variable {S : Mem} {J : MeJ} {T : Nat → Nat} {y : Nat → Nat} {n t : Nat}
set_option maxRecDepth 100000 in
set_option maxHeartbeats 400000 in
theorem c_rEnd (htl : tlA t) {q : PSt} (h : clS S t y n q) : ∃ S' b, fX8_read_102 1 t (nI 1) (hp S J T) = some (b, hp S' J T) ∧ outC S' b (pEnd q) (fun q => clS S' t y n q) ∧ fr S S' (LnS t) := by
  obtain ⟨h1, h2, h3, h4, h5, h6, h7⟩ := id h
  have hP := h4 3 (by omega)
  have hN := h4 4 (by omega)
  obtain ⟨k3, k4, k5, k6, k7, k8⟩ := id h6
  have e121 : ∃ S', fX8_read_121 1 (hp S J T) = some (nI 0, hp S' J T) ∧ S' 1 1 = nI 6 ∧ S' 1 2 = nI q.2.2.2 ∧ frR S S' := by
    obtain ⟨S4, g1, g2, g3, g4⟩ := c_failC (J := J) (T := T) h1 6
    refine ⟨S4, ?_, g2, g3, g4⟩
    unfold fX8_read_121 fX8_read_124
    rw [rd_isO, Option.bind_some, kB_6, g1, Option.bind_some]
    unfold fX8_read_127 fX8_read_128
    rw [if_pos o_0]
  obtain ⟨S4, g1, g2, g3, g4⟩ := e121
  unfold fX8_read_102
  rw [if_neg (show ¬ nI 1 = 0 by decide)]
  unfold fX8_read_106
  rw [tl_g3 htl, Option.bind_some, hP]
  by_cases z3 : q.2.2.1 3 = 0
  · rw [z3, if_pos (show nI 0 = 0 from rfl)]
    refine ⟨S4, nI 0, g1, ?_, frR_L g4⟩
    unfold pEnd
    rw [if_pos (Or.inl z3)]
    exact ⟨rfl, g2, g3⟩
  · rw [if_neg (nzI (by omega) z3)]
    unfold fX8_read_113 fX8_read_115
    rw [tl_isO htl, Option.bind_some, kI_0, c_hasF htl hN k4, Option.bind_some, anyR_cg (R' := q.1) _ (fun i hi => h7 _ (by unfold inD; omega))]
    unfold fX8_read_118 pEnd
    cases za : anyR q.1 19 (nI 0) (q.2.2.1 4) with
    | true =>
      rw [if_neg (show ¬ bI true = 0 by decide), if_neg (fun z => by rcases z with z | z; exact z3 z; cases z)]
      refine ⟨S, nI 1, ?_, ⟨rfl, h⟩, fr_rf S _⟩
      unfold fX8_read_128
      rw [if_pos o_1]
    | false =>
      rw [if_pos (show bI false = 0 by decide), if_pos (Or.inr rfl)]
      exact ⟨S4, nI 0, g1, ⟨rfl, g2, g3⟩, frR_L g4⟩
set_option maxRecDepth 100000 in
set_option maxHeartbeats 400000 in
theorem c_rEnd0 {g : Nat} {x : Int32} {h : aH} : lX8_read_53 (g + 1) 1 t (nI 0) x h = some (nI 0, h) := by
  have e : fX8_read_102 1 t (nI 0) h = some (nI 0, h) := by
    unfold fX8_read_102
    rw [if_pos (show nI 0 = 0 from rfl)]
    unfold fX8_read_128
    rw [if_pos o_0]
  unfold lX8_read_53 fX8_read_53
  split
  · unfold fX8_read_61
    rw [if_pos (show nI 0 = 0 from rfl)]
    exact e
  · exact e
set_option maxRecDepth 100000 in
set_option maxHeartbeats 400000 in
theorem c_rLoo (htl : tlA t) (ht0 : 56 ≤ t) : ∀ (f k g : Nat) (S : Mem) (q : PSt), k + f = 700 → f + 1 < g → clS S t y n q → pIv q.1 q.2.1 q.2.2.1 → ∃ S' b, lX8_read_53 g 1 t (nI 1) (nI k) (hp S J T) = some (b, hp S' J T) ∧ outC S' b (bdP (pLoo y n f q) pEnd) (fun q => clS S' t y n q) ∧ fr S S' (LnS t) := by
  intro f
  induction f with
  | zero =>
    intro k g S q hk hg h hi
    obtain ⟨g, rfl⟩ : ∃ z, g = z + 1 := ⟨g - 1, by omega⟩
    unfold lX8_read_53 fX8_read_53
    rw [kS_700, if_neg (nltn (show ¬ k < 700 by omega) (by omega) (by omega))]
    exact c_rEnd htl h
  | succ f ih =>
    intro k g S q hk hg h hi
    obtain ⟨g, rfl⟩ : ∃ z, g = z + 1 := ⟨g - 1, by omega⟩
    have h1 := h.1
    have hK := tkK_le y n q.2.2.2
    conv => enter [1, S', 1, b, 1, 1]; unfold lX8_read_53
    unfold fX8_read_53
    rw [kS_700, if_pos (ltn (show k < 700 by omega) (by omega))]
    unfold fX8_read_61
    rw [if_neg (show ¬ nI 1 = 0 by decide)]
    unfold fX8_read_65
    rw [rd_g12, Option.bind_some, h1.2.2.2.2.2.1]
    unfold pLoo
    by_cases z0 : tkK y n q.2.2.2 = 0
    · rw [z0, if_pos (show nI 0 = 0 from rfl), if_pos rfl]
      exact c_rEnd htl h
    · rw [if_neg (nzI (by omega) z0), if_neg z0]
      unfold fX8_read_72
      rw [rd_g12, Option.bind_some, h1.2.2.2.2.2.1, kI_4]
      by_cases z4 : tkK y n q.2.2.2 = 4
      · rw [z4, if_pos rfl, if_pos rfl]
        obtain ⟨S2, a1, a2, a3⟩ := s_stepR (J := J) (T := T) h1
        obtain ⟨S3, b, r1, r2, r3⟩ := c_rLin (J := J) (T := T) htl ht0 (clS_fr (R := q.1) (W := q.2.1) (c := q.2.2.1) h a3 a2 (by omega)) (fun k hk => by obtain ⟨p, x1, x2⟩ := hi.2.2.2.2.2.2.1 k hk; exact ⟨p, by have := hi.1.1; omega, x2⟩)
        have e1 : fX8_read_86 (lX8_read_53 g) 1 t (nI k) (hp S J T) = lX8_read_53 g 1 t b (nI (k + 1)) (hp S3 J T) := by
          unfold fX8_read_86 fX8_read_87
          rw [rd_isO, Option.bind_some, a1, Option.bind_some]
          unfold fX8_read_90 fX8_read_92
          rw [rd_isO, Option.bind_some, r1, Option.bind_some]
          unfold fX8_read_95
          rw [kI_1, nI_add]
        rw [e1]
        cases hl : pLin y n (q.1, q.2.1, q.2.2.1, nx y n q.2.2.2) with
        | inl e =>
          rw [hl] at r2
          obtain ⟨g, rfl⟩ : ∃ z, g = z + 1 := ⟨g - 1, by omega⟩
          refine ⟨S3, nI 0, by rw [r2.1]; exact c_rEnd0, ⟨rfl, r2.2.1, r2.2.2⟩, fr_tr (frR_L a3) r3⟩
        | inr q' =>
          rw [hl] at r2
          obtain ⟨S4, b4, x1, x2, x3⟩ := ih (k + 1) g S3 q' (by omega) (by omega) r2.2 (pIv_lin (q := (q.1, q.2.1, q.2.2.1, nx y n q.2.2.2)) hi hl)
          exact ⟨S4, b4, by rw [r2.1]; exact x1, x2, fr_tr (fr_tr (frR_L a3) r3) x3⟩
      · rw [if_neg (show ¬ nI (tkK y n q.2.2.2) = nI 4 by rw [eq_eq (by omega) (by omega)]; exact z4), if_neg z4]
        obtain ⟨S4, g1, g2, g3, g4⟩ := c_failC (J := J) (T := T) h1 1
        refine ⟨S4, nI 0, ?_, ⟨rfl, g2, g3⟩, frR_L g4⟩
        unfold fX8_read_80 fX8_read_82
        rw [rd_isO, Option.bind_some, kI_1, g1, Option.bind_some]
        unfold fX8_read_85
        rw [if_pos o_0]
set_option maxRecDepth 100000 in
set_option maxHeartbeats 400000 in
theorem c_clr (htl : tlA t) : ∃ X : Row, gX9_clear t (hp S J T) = some (hp (stR S t X) J T) ∧ ∀ j, j < 8 → X j = nI 0 := by
  refine ⟨up (up (up (up (up (up (up (up (S t) 0 (nI 0)) 1 (nI 0)) 2 (nI 0)) 3 (nI 0)) 4 (nI 0)) 5 (nI 0)) 6 (nI 0)) 7 (nI 0), ?_, fun j hj => ?_⟩
  · unfold gX9_clear fX9_clear_0
    rw [kI_0, tl_p0 htl, Option.bind_some, stS_R, tl_p1 htl, Option.bind_some, stS_R, stR_stR, stR_eq, tl_p2 htl, Option.bind_some, stS_R, stR_stR, stR_eq, tl_p3 htl, Option.bind_some, stS_R, stR_stR, stR_eq, tl_p4 htl, Option.bind_some, stS_R, stR_stR, stR_eq, tl_p5 htl, Option.bind_some, stS_R, stR_stR, stR_eq, tl_p6 htl, Option.bind_some, stS_R, stR_stR, stR_eq, tl_p7 htl, Option.bind_some, stS_R, stR_stR, stR_eq]
  · unfold up
    repeat (split; · rfl)
    omega
set_option maxRecDepth 100000 in
set_option maxHeartbeats 400000 in
theorem c_read (htl : tlA t) (ht0 : 56 ≤ t) (htp : tpC S y n) : ∃ S' b, gX8_read 1 (nI n) t (hp S J T) = some (b, hp S' J T) ∧ outC S' b (pAll y n) (fun q => clS S' t y n q) ∧ fr S S' (LnS t) := by
  obtain ⟨X, x1, x2⟩ := c_clr (S := S) (J := J) (T := T) htl
  have hn7 := htp.1
  generalize hS2 : stR (stR S t X) 1 (up (up (up (up (up (up (S 1) 9 (nI n)) 11 (nI 0)) 8 (nI 0)) 14 (nI 0)) 1 (nI 0)) 2 m1) = S2
  have c1 : S2 1 = up (up (up (up (up (up (S 1) 9 (nI n)) 11 (nI 0)) 8 (nI 0)) 14 (nI 0)) 1 (nI 0)) 2 m1 := by rw [← hS2, stR_eq]
  have ct : S2 t = X := by rw [← hS2, stR_ne (by omega), stR_eq]
  have c2 : S2 2 = S 2 := by rw [← hS2, stR_ne (by omega), stR_ne (by omega)]
  have f2 : fr S S2 (LnS t) := by rw [← hS2]; exact fr_st (fr_st (fr_rf S _) (by simp [LnS])) (by simp [LnS])
  have tp2 : tpC S2 y n := ⟨htp.1, fun k hk => by rw [c2]; exact htp.2 k hk⟩
  obtain ⟨Y, a1, a2, a3, a4, a5, a6⟩ := c_step (S := S2) (J := J) (T := T) tp2 (e := 0) (Nat.zero_le _) (by rw [c1, up_ne (by omega), up_ne (by omega), up_ne (by omega), up_ne (by omega), up_ne (by omega), up_eq]) (by rw [c1, up_ne (by omega), up_ne (by omega), up_ne (by omega), up_ne (by omega), up_eq])
  have hs : clS (stR S2 1 Y) t y n (p0 y n) := by
    have b9 : Y 9 = nI n := by rw [a6 9 (by omega) (by omega) (by omega) (by omega), c1, up_ne (by omega), up_ne (by omega), up_ne (by omega), up_ne (by omega), up_ne (by omega), up_eq]
    have b1 : Y 1 = nI 0 := by rw [a6 1 (by omega) (by omega) (by omega) (by omega), c1, up_ne (by omega), up_eq]
    have b8 : Y 8 = nI 0 := by rw [a6 8 (by omega) (by omega) (by omega) (by omega), c1, up_ne (by omega), up_ne (by omega), up_ne (by omega), up_eq]
    have b14 : Y 14 = nI 0 := by rw [a6 14 (by omega) (by omega) (by omega) (by omega), c1, up_ne (by omega), up_ne (by omega), up_eq]
    refine ⟨⟨⟨tp2.1, fun k hk => by rw [stR_ne (by omega)]; exact tp2.2 k hk⟩, (tkS_b (y := y) (Nat.zero_le _)).2, by rw [stR_eq]; exact b9, by rw [stR_eq]; exact a2, by rw [stR_eq]; exact a3, by rw [stR_eq]; exact a4, by rw [stR_eq]; exact ⟨a5, b1⟩⟩, ⟨by rw [stR_eq]; exact b8, Nat.zero_le _, fun i w hw => by cases hw⟩, rfl, fun j hj => ?_, ?_, pIv_0.1, fun j hj => ?_⟩
    · rw [stR_ne (by omega), ct]; exact x2 j hj
    · rw [stR_eq]; exact b14
    · have hj' : inD (fun _ => 0) j := hj
      unfold inD at hj'
      dsimp only at hj'
      omega
  obtain ⟨S3, b, r1, r2, r3⟩ := c_rLin (J := J) (T := T) htl ht0 hs (fun k hk => absurd hk (Nat.not_lt_zero _))
  have f3 : fr S S3 (LnS t) := fr_tr (fr_tr f2 (fr_st (fr_rf S2 _) (by simp [LnS]))) r3
  have e1 : gX8_read 1 (nI n) t (hp S J T) = lX8_read_53 FU 1 t b (nI 0) (hp S3 J T) := by
    unfold gX8_read fX8_read_0 fX8_read_1
    rw [tl_isO htl, Option.bind_some, x1, Option.bind_some]
    unfold fX8_read_4 fX8_read_9
    rw [kS_700, if_neg (nltn (show ¬ 700 < n by omega) (by omega) (by omega))]
    unfold fX8_read_12
    rw [kI_0, kI_n, rd_p9, Option.bind_some, stS_R, stR_ne (show 1 ≠ t by omega), rd_p11, Option.bind_some, stS_R, stR_stR, stR_eq, rd_p8, Option.bind_some, stS_R, stR_stR, stR_eq, rd_p14 o_0, Option.bind_some, stS_R, stR_stR, stR_eq, rd_p1, Option.bind_some, stS_R, stR_stR, stR_eq, rd_p2, Option.bind_some, stS_R, stR_stR, stR_eq, hS2]
    unfold fX8_read_41
    rw [rd_isO, Option.bind_some, a1, Option.bind_some]
    unfold fX8_read_44 fX8_read_46
    rw [rd_isO, Option.bind_some, r1, Option.bind_some]
    unfold fX8_read_49
    rw [kI_0]
  rw [e1]
  have r2' : outC S3 b (pLin y n (p0 y n)) (fun q => clS S3 t y n q) := r2
  show ∃ S' b, _ ∧ outC S' b (bdP (bdP (pLin y n (p0 y n)) (pLoo y n 700)) pEnd) _ ∧ _
  cases hl : pLin y n (p0 y n) with
  | inl e =>
    rw [hl] at r2'
    have hF : FU = 39999 + 1 := FU_eq
    refine ⟨S3, nI 0, by rw [r2'.1, hF]; exact c_rEnd0, ⟨rfl, r2'.2.1, r2'.2.2⟩, f3⟩
  | inr q =>
    rw [hl] at r2'
    obtain ⟨S4, b4, y1, y2, y3⟩ := c_rLoo (J := J) (T := T) htl ht0 700 0 FU S3 q (by omega) (FU_lt (by omega)) r2'.2 (pIv_lin (q := p0 y n) pIv_0 hl)
    exact ⟨S4, b4, by rw [r2'.1]; exact y1, y2, fr_tr f3 y3⟩
end RDA

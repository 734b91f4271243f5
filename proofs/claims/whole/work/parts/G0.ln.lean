-- LINES: the class's state; the table's line
def inD (c : Nat → Nat) (j : Nat) : Prop := (9 ≤ j ∧ j < 9 + 2 * c 3) ∨ (100 ≤ j ∧ j < 100 + c 3) ∨ (19 ≤ j ∧ j < 19 + 2 * c 4 ∧ j % 2 = 1) ∨ (114 ≤ j ∧ j < 114 + c 4) ∨ (35 ≤ j ∧ j < 35 + 2 * c 5) ∨ (51 ≤ j ∧ j < 51 + 2 * c 6) ∨ (59 ≤ j ∧ j < 59 + 2 * c 7)
def cB (c : Nat → Nat) : Prop := c 3 ≤ 5 ∧ c 4 ≤ 8 ∧ c 5 ≤ 8 ∧ c 6 ≤ 4 ∧ c 7 ≤ 6 ∧ c 8 ≤ 1
def clS (S : Mem) (t : Nat) (y : Nat → Nat) (n : Nat) (q : PSt) : Prop := tC S y n q.2.2.2 ∧ wrC S y n q.2.1 ∧ q.2.1.length = q.2.2.1 3 + q.2.2.1 4 ∧ (∀ j, j < 8 → S t j = nI (q.2.2.1 j)) ∧ S 1 14 = nI (q.2.2.1 8) ∧ cB q.2.2.1 ∧ ∀ j, inD q.2.2.1 j → S t j = q.1 j
def LnS (t : Nat) : List Nat := [1, 3, 4, 5, 6, t]
set_option maxRecDepth 100000 in
set_option maxHeartbeats 400000 in
theorem tC_t {S : Mem} {y : Nat → Nat} {n s t : Nat} {X : Row} (h : tC S y n s) (h1 : t ≠ 1) (h2 : t ≠ 2) : tC (stR S t X) y n s := by
  obtain ⟨a1, a2, a3⟩ := h
  refine ⟨⟨a1.1, fun k hk => by rw [stR_ne (by omega)]; exact a1.2 k hk⟩, a2, ?_⟩
  rw [stR_ne (show 1 ≠ t by omega)]
  exact a3
set_option maxRecDepth 100000 in
set_option maxHeartbeats 400000 in
theorem wrC_t {S : Mem} {y : Nat → Nat} {n t : Nat} {W : WL} {X : Row} (h : wrC S y n W) (ht : 56 ≤ t) : wrC (stR S t X) y n W := by
  obtain ⟨h1, h2, h3⟩ := h
  refine ⟨by rw [stR_ne (by omega)]; exact h1, h2, fun i w hw => ?_⟩
  rw [stR_ne (by omega), stR_ne (by omega), stR_ne (by omega), stR_ne (by omega)]
  exact h3 i w hw
set_option maxRecDepth 100000 in
set_option maxHeartbeats 400000 in
theorem frR_L {S S' : Mem} {t : Nat} (h : frR S S') : fr S S' (LnS t) := fun c hc => h.1 c (fun z => hc (by rw [z]; simp [LnS]))
set_option maxRecDepth 100000 in
set_option maxHeartbeats 400000 in
theorem frW_L {S S' : Mem} {t : Nat} (h : frW S S') : fr S S' (LnS t) := fun c hc => h.1 c (fun z => hc (by simp [LnS] at z ⊢; omega))
set_option maxRecDepth 100000 in
set_option maxHeartbeats 400000 in
theorem outC_b {α : Type} {S : Mem} {b : Int32} {x : PR α} {ok : α → Prop} (h : outC S b x ok) : b = 0 ∨ b = 1 := by
  cases x with
  | inl e => exact Or.inl (by rw [h.1]; rfl)
  | inr a => exact Or.inr (by rw [h.1]; rfl)
section LN
variable {S : Mem} {J : MeJ} {T : Nat → Nat} {y : Nat → Nat} {n t : Nat}
set_option maxRecDepth 100000 in
set_option maxHeartbeats 400000 in
theorem c_rTab (htl : tlA t) (ht0 : 56 ≤ t) {R : Row} {W : WL} {c : Nat → Nat} {s : Nat} (h : clS S t y n (R, W, c, s)) : ∃ S' b, gX8_readTable 1 t (hp S J T) = some (b, hp S' J T) ∧ outC S' b (bdP (pA y n 6 1 20 s) fun b => bdP (pA y n 7 5 200 (nx y n b.2)) fun a => bdP (pA y n 8 0 100 (nx y n a.2)) fun f => .inr ((R, W, upN (upN (upN (upN c 0 b.1) 1 a.1) 2 f.1) 8 1, nx y n f.2) : PSt)) (fun q => clS S' t y n q) ∧ fr S S' (LnS t) := by
  obtain ⟨h1, h2, h3, h4, h5, h6, h7⟩ := h
  dsimp only at h1 h2 h3 h4 h5 h6 h7
  -- bowl
  obtain ⟨S1, b1, u1, u2, u3⟩ := c_fW (J := J) (T := T) h1 (i := 6) (lo := 1) (hi := 20) (by omega) (by omega) (by omega)
  have e1 : gX8_readTable 1 t (hp S J T) = fX8_readTable_9 1 t b1 (hp S1 J T) := by
    unfold gX8_readTable fX8_readTable_0 fX8_readTable_1 fX8_readTable_3 fX8_readTable_6
    rw [rd_isO, Option.bind_some, kI_1, kB_20, u1, Option.bind_some]
  rw [show stN 6 = 6 from rfl] at u2
  rw [e1]
  cases hp1 : pA y n 6 1 20 s with
  | inl e =>
    rw [hp1] at u2
    refine ⟨S1, nI 0, ?_, ⟨rfl, u2.2.1, u2.2.2⟩, frR_L u3⟩
    unfold fX8_readTable_9
    rw [u2.1, if_pos (show nI 0 = 0 from rfl)]
    unfold fX8_readTable_12
    rw [kI_0, if_pos o_0]
  | inr v1 =>
    rw [hp1] at u2
    obtain ⟨p1, p2, p3, p4⟩ := u2
    have k1 := tC_t (t := t) (X := up (S1 t) 0 (nI v1.1)) p2 (by omega) (by omega)
    obtain ⟨S2, a1, a2, a3⟩ := s_stepR (J := J) (T := T) k1
    have e2 : fX8_readTable_9 1 t b1 (hp S1 J T) = fX8_readTable_26 1 t (hp S2 J T) := by
      unfold fX8_readTable_9
      rw [p1, if_neg (show ¬ nI 1 = 0 by decide)]
      unfold fX8_readTable_14
      rw [rd_g13, Option.bind_some, p3, tl_p0 htl, Option.bind_some, stS_R]
      unfold fX8_readTable_23
      rw [rd_isO, Option.bind_some, a1, Option.bind_some]
    -- starve
    obtain ⟨S3, b3, v2, v3, v4⟩ := c_fW (J := J) (T := T) a2 (i := 7) (lo := 5) (hi := 200) (by omega) (by omega) (by omega)
    rw [show stN 7 = 7 from rfl] at v3
    have e3 : fX8_readTable_26 1 t (hp S2 J T) = fX8_readTable_36 1 t b3 (hp S3 J T) := by
      unfold fX8_readTable_26 fX8_readTable_27 fX8_readTable_29 fX8_readTable_33
      rw [rd_isO, Option.bind_some, kI_5, kS_200, v2, Option.bind_some]
    rw [e2, e3]
    have f3 : fr S S3 (LnS t) := fr_tr (fr_tr (frR_L u3) (fr_st (fr_rf S1 _) (by simp [LnS]))) (fr_tr (frR_L a3) (frR_L v4))
    show ∃ S' b, _ ∧ outC S' b (bdP (pA y n 7 5 200 (nx y n v1.2)) fun a => bdP (pA y n 8 0 100 (nx y n a.2)) fun f => .inr ((R, W, upN (upN (upN (upN c 0 v1.1) 1 a.1) 2 f.1) 8 1, nx y n f.2) : PSt)) _ ∧ _
    cases hp2 : pA y n 7 5 200 (nx y n v1.2) with
    | inl e =>
      rw [hp2] at v3
      refine ⟨S3, nI 0, ?_, ⟨rfl, v3.2.1, v3.2.2⟩, f3⟩
      unfold fX8_readTable_36
      rw [v3.1, if_pos (show nI 0 = 0 from rfl)]
      unfold fX8_readTable_39
      rw [kI_0, if_pos o_0]
    | inr w1 =>
      rw [hp2] at v3
      obtain ⟨q1, q2, q3, q4⟩ := v3
      have k2 := tC_t (t := t) (X := up (S3 t) 1 (nI w1.1)) q2 (by omega) (by omega)
      obtain ⟨S4, c1, c2, c3⟩ := s_stepR (J := J) (T := T) k2
      have e4 : fX8_readTable_36 1 t b3 (hp S3 J T) = fX8_readTable_53 1 t (hp S4 J T) := by
        unfold fX8_readTable_36
        rw [q1, if_neg (show ¬ nI 1 = 0 by decide)]
        unfold fX8_readTable_41
        rw [rd_g13, Option.bind_some, q3, tl_p1 htl, Option.bind_some, stS_R]
        unfold fX8_readTable_50
        rw [rd_isO, Option.bind_some, c1, Option.bind_some]
      -- flinch
      obtain ⟨S5, b5, w2, w3, w4⟩ := c_fW (J := J) (T := T) c2 (i := 8) (lo := 0) (hi := 100) (by omega) (by omega) (by omega)
      rw [show stN 8 = 8 from rfl] at w3
      have e5 : fX8_readTable_53 1 t (hp S4 J T) = fX8_readTable_62 1 t b5 (hp S5 J T) := by
        unfold fX8_readTable_53 fX8_readTable_54 fX8_readTable_56 fX8_readTable_59
        rw [rd_isO, Option.bind_some, kI_0, kB_100, w2, Option.bind_some]
      rw [e4, e5]
      have f5 : fr S S5 (LnS t) := fr_tr f3 (fr_tr (fr_st (fr_rf S3 _) (by simp [LnS])) (fr_tr (frR_L c3) (frR_L w4)))
      show ∃ S' b, _ ∧ outC S' b (bdP (pA y n 8 0 100 (nx y n w1.2)) fun f => .inr ((R, W, upN (upN (upN (upN c 0 v1.1) 1 w1.1) 2 f.1) 8 1, nx y n f.2) : PSt)) _ ∧ _
      cases hp3 : pA y n 8 0 100 (nx y n w1.2) with
      | inl e =>
        rw [hp3] at w3
        refine ⟨S5, nI 0, ?_, ⟨rfl, w3.2.1, w3.2.2⟩, f5⟩
        unfold fX8_readTable_62
        rw [w3.1, if_pos (show nI 0 = 0 from rfl)]
        unfold fX8_readTable_65
        rw [kI_0, if_pos o_0]
      | inr z1 =>
        rw [hp3] at w3
        obtain ⟨r1, r2, r3, r4⟩ := w3
        have k3 := tC_t (t := t) (X := up (S5 t) 2 (nI z1.1)) r2 (by omega) (by omega)
        obtain ⟨S6, d1, d2, d3⟩ := s_stepR (J := J) (T := T) k3
        generalize hS7 : stR S6 1 (up (S6 1) 14 (nI 1)) = S7
        have g1 : S7 1 = up (S6 1) 14 (nI 1) := by rw [← hS7, stR_eq]
        have go : ∀ x, x ≠ 1 → S7 x = S6 x := fun x hx => by rw [← hS7, stR_ne hx]
        have et : S7 t = up (up (up (S t) 0 (nI v1.1)) 1 (nI w1.1)) 2 (nI z1.1) := by
          rw [go t (by omega), d3.1 t (by omega), stR_eq, w4.1 t (by omega), c3.1 t (by omega), stR_eq, v4.1 t (by omega), a3.1 t (by omega), stR_eq, u3.1 t (by omega)]
        refine ⟨S7, nI 1, ?_, ⟨rfl, ?_⟩, ?_⟩
        · unfold fX8_readTable_62
          rw [r1, if_neg (show ¬ nI 1 = 0 by decide)]
          unfold fX8_readTable_67
          rw [rd_g13, Option.bind_some, r3, tl_p2 htl, Option.bind_some, stS_R]
          unfold fX8_readTable_76
          rw [rd_isO, Option.bind_some, d1, Option.bind_some]
          unfold fX8_readTable_79
          rw [kI_1, rd_p14 o_1, Option.bind_some, stS_R, hS7, if_pos o_1]
        · have h8 : ∀ j, j ≠ 1 → j ≠ 2 → j ≠ 10 → j ≠ 11 → j ≠ 12 → j ≠ 13 → j ≠ 14 → S7 1 j = S 1 j := fun j z1 z2 z3 z4 z5 z6 z7 => by
            rw [g1, up_ne z7, d3.2 j z1 z2 z3 z4 z5 z6, stR_ne (by omega), w4.2 j z1 z2 z3 z4 z5 z6, c3.2 j z1 z2 z3 z4 z5 z6, stR_ne (by omega), v4.2 j z1 z2 z3 z4 z5 z6, a3.2 j z1 z2 z3 z4 z5 z6, stR_ne (by omega), u3.2 j z1 z2 z3 z4 z5 z6]
          have h9 : ∀ x, x ≠ 1 → x ≠ t → S7 x = S x := fun x z1 z2 => by
            rw [go x z1, d3.1 x z1, stR_ne z2, w4.1 x z1, c3.1 x z1, stR_ne z2, v4.1 x z1, a3.1 x z1, stR_ne z2, u3.1 x z1]
          refine ⟨?_, ?_, ?_, fun j hj => ?_, ?_, ?_, fun j hj => ?_⟩
          · obtain ⟨x1, x2, x3, x4, x5, x6, x7⟩ := d2
            exact ⟨⟨x1.1, fun k hk => by rw [go 2 (by omega)]; exact x1.2 k hk⟩, x2, by rw [g1, up_ne (by omega)]; exact x3, by rw [g1, up_ne (by omega)]; exact x4, by rw [g1, up_ne (by omega)]; exact x5, by rw [g1, up_ne (by omega)]; exact x6, by rw [g1, up_ne (by omega), up_ne (by omega)]; exact x7⟩
          · obtain ⟨x1, x2, x3⟩ := h2
            refine ⟨by rw [h8 8 (by omega) (by omega) (by omega) (by omega) (by omega) (by omega) (by omega)]; exact x1, x2, fun i w hw => ?_⟩
            rw [h9 3 (by omega) (by omega), h9 4 (by omega) (by omega), h9 5 (by omega) (by omega), h9 6 (by omega) (by omega)]
            exact x3 i w hw
          · exact h3
          · rw [et]
            show _ = nI (upN (upN (upN (upN c 0 v1.1) 1 w1.1) 2 z1.1) 8 1 j)
            rw [upN_ne (by omega)]
            unfold up upN
            by_cases j2 : j = 2
            · rw [if_pos j2, if_pos j2]
            · rw [if_neg j2, if_neg j2]
              by_cases j1 : j = 1
              · rw [if_pos j1, if_pos j1]
              · rw [if_neg j1, if_neg j1]
                by_cases j0 : j = 0
                · rw [if_pos j0, if_pos j0]
                · rw [if_neg j0, if_neg j0]; exact h4 j hj
          · rw [g1, up_eq]; rfl
          · obtain ⟨x1, x2, x3, x4, x5, x6⟩ := h6
            exact ⟨x1, x2, x3, x4, x5, Nat.le_refl _⟩
          · have hj' : inD c j := hj
            rw [et, up_ne (by unfold inD at hj'; omega), up_ne (by unfold inD at hj'; omega), up_ne (by unfold inD at hj'; omega)]
            exact h7 j hj'
        · refine fr_tr f5 (fr_tr (fr_st (fr_rf S5 _) (by simp [LnS])) (fr_tr (frR_L d3) ?_))
          rw [← hS7]
          exact fr_st (fr_rf S6 _) (by simp [LnS])
end LN

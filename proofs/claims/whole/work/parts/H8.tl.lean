-- THE TEXT, the reference: the first kind of line
def rwM (S : Mem) (R : Row) (c : Nat → Nat) : Prop := (∀ i, i < 9 → S 171 i = nI (c i)) ∧ (∀ i, 9 ≤ i → i < 19 → S 171 i = R i) ∧ (∀ k, k < 8 → S 171 (19 + 2 * k) = R (19 + 2 * k) ∧ S 171 (20 + 2 * k) = R (114 + k)) ∧ (∀ i, 35 ≤ i → i < 71 → S 171 i = R i) ∧ (∀ p, p < 5 → S 173 p = R (100 + p)) ∧ ∀ j, 5 ≤ j → j < 22 → S 173 j = nI 0
def stM (S : Mem) (y : Nat → Nat) (n : Nat) (q : PSt) : Prop := tM S y n q.2.2.2 ∧ rwM S q.1 q.2.2.1 ∧ wrM S y q.2.1
def frO (S S' : Mem) : Prop := (∀ c, c ≠ 167 → c ≠ 169 → c ≠ 171 → c ≠ 173 → S' c = S c) ∧ (∀ j, j ∉ [4, 5, 6, 7, 8, 9, 10, 13] → S' 167 j = S 167 j) ∧ kp9 S S' ∧ ∀ K, K ≤ 8 → S 171 4 = nI K → ∃ K', K' ≤ 8 ∧ S' 171 4 = nI K'
set_option maxRecDepth 100000 in
set_option maxHeartbeats 400000 in
theorem frO_rf (S : Mem) : frO S S := ⟨fun _ _ _ _ _ => rfl, fun _ _ => rfl, kp9_eq rfl, fun K a b => ⟨K, a, b⟩⟩
set_option maxRecDepth 100000 in
set_option maxHeartbeats 400000 in
theorem frO_tr {S S' S'' : Mem} (h : frO S S') (q : frO S' S'') : frO S S'' := ⟨fun c a b d e => (q.1 c a b d e).trans (h.1 c a b d e), fun j a => (q.2.1 j a).trans (h.2.1 j a), kp9_tr h.2.2.1 q.2.2.1, fun K a b => by obtain ⟨K1, c1, c2⟩ := h.2.2.2 K a b; exact q.2.2.2 K1 c1 c2⟩
set_option maxRecDepth 100000 in
set_option maxHeartbeats 400000 in
theorem frN_O {S S' : Mem} (h : frN S S') : frO S S' := ⟨fun c a b d _ => h.1 c a b d, h.2.2.1, h.2.2.2, fun K a b => ⟨K, a, by rw [h.2.1 4 (by omega)]; exact b⟩⟩
set_option maxRecDepth 100000 in
set_option maxHeartbeats 400000 in
theorem frM_O {S S' : Mem} (h : frM S S') : frO S S' := frN_O (frM_N h)
set_option maxRecDepth 100000 in
set_option maxHeartbeats 400000 in
theorem frO_171 {S : Mem} {X : Row} (h : X 4 = S 171 4) : frO S (stR S 171 X) := ⟨fun c _ _ d _ => stR_ne d, fun j _ => by rw [stR_ne (by omega)], kp9_eq (stR_ne (by omega)), fun K a b => ⟨K, a, by rw [stR_eq, h]; exact b⟩⟩
set_option maxRecDepth 100000 in
set_option maxHeartbeats 400000 in
theorem fTM_171 {S : Mem} {X : Row} {e : Nat × Nat} (h : fTM S e) : fTM (stR S 171 X) e := by
  unfold fTM at h ⊢
  rw [stR_ne (show 167 ≠ 171 by omega)]
  exact h
set_option maxRecDepth 100000 in
set_option maxHeartbeats 400000 in
theorem tM_cg {S S' : Mem} {y : Nat → Nat} {n s : Nat} (h : tM S y n s) (e1 : S' 167 = S 167) (e2 : S' 168 = S 168) (e3 : S' 169 = S 169) : tM S' y n s := by
  unfold tM tpM at h ⊢
  rw [e1, e2, e3]
  exact h
set_option maxRecDepth 100000 in
set_option maxHeartbeats 400000 in
theorem rwM_N {S S' : Mem} {R : Row} {c : Nat → Nat} (h : rwM S R c) (f : frN S S') : rwM S' R c := by
  obtain ⟨h1, h2, h3, h4, h5, h6⟩ := h
  have e := f.2.1
  have e173 : S' 173 = S 173 := f.1 173 (by omega) (by omega) (by omega)
  refine ⟨fun i hi => ?_, fun i a b => ?_, fun k hk => ?_, fun i a b => ?_, fun p hq => ?_, fun j a b => ?_⟩
  · rw [e i (by omega)]; exact h1 i hi
  · rw [e i (by omega)]; exact h2 i a b
  · rw [e _ (by omega), e _ (by omega)]; exact h3 k hk
  · rw [e i b]; exact h4 i a b
  · rw [e173]; exact h5 p hq
  · rw [e173]; exact h6 j a b
set_option maxRecDepth 100000 in
set_option maxHeartbeats 400000 in
theorem wrM_lo {S S' : Mem} {y : Nat → Nat} {W : WL} (h : wrM S y W) (e : ∀ j, 71 ≤ j → S' 171 j = S 171 j) : wrM S' y W := by
  obtain ⟨h1, h2, h3⟩ := h
  refine ⟨h1, fun w hw => ?_, fun d hd hw => ?_⟩
  · obtain ⟨a1, a2, a3, a4, a5⟩ := h2 w hw
    refine ⟨a1, a2, a3, ?_, fun i hi => ?_⟩
    · rw [e _ (by omega)]; exact a4
    · rw [e _ (by omega)]; exact a5 i hi
  · rw [e _ (by omega)]; exact h3 d hd hw
section RM8
variable {S : Mem} {J : MeJ} {T : Nat → Nat} {y : Nat → Nat} {n s : Nat} {R : Row} {W : WL} {c : Nat → Nat}
set_option maxRecDepth 100000 in
set_option maxHeartbeats 400000 in
theorem c_tabM (h : stM S y n (R, W, c, s)) (hw : wdB y n s 0 = true) (hc8 : c 8 ≤ 1) : ∃ S', gX11_tableLine 167 (hp S J T) = some (hp S' J T) ∧ outM S' (pTab y n (R, W, c, s)) (fun q => stM S' y n q) ∧ frO S S' := by
  obtain ⟨h1, h2, h3⟩ := h
  dsimp only at h1 h2 h3
  have h13 := h1.2.2.2.1
  have h8 := h2.1 8 (by omega)
  have eF2 : ∀ S' : Mem, S' 167 13 = nI 1 → fX11_tableLine_73 167 (nI 100) (nI 0) (SB + 20) 167 (nI 2) 171 (hp S' J T) = some (hp (stR S' 171 (up (S' 171) 2 (nI 0))) J T) := fun S' h' => by
    unfold fX11_tableLine_73
    rw [mo_isO, Option.bind_some, c_aftF h', Option.bind_some]
    unfold fX11_tableLine_76
    rw [mo_w16 (by omega), Option.bind_some, stS_R, mo_g13, Option.bind_some, stR_ne (show 167 ≠ 171 by omega), h', if_neg (show ¬ nI 1 = 0 by decide)]
    rfl
  have eF1 : ∀ S' : Mem, S' 167 13 = nI 1 → fX11_tableLine_58 167 (nI 200) (nI 5) (SB + 19) 167 (nI 1) 171 (hp S' J T) = some (hp (stR S' 171 (up (up (S' 171) 1 (nI 5)) 2 (nI 0))) J T) := fun S' h' => by
    unfold fX11_tableLine_58
    rw [mo_isO, Option.bind_some, c_aftF h', Option.bind_some]
    unfold fX11_tableLine_61
    rw [mo_w16 (by omega), Option.bind_some, stS_R, mo_f16, Option.bind_some]
    unfold fX11_tableLine_68 fX11_tableLine_70
    rw [kB_100, kI_0, kI_2, eF2 _ (by rw [stR_ne (show 167 ≠ 171 by omega)]; exact h'), stR_stR, stR_eq]
  unfold gX11_tableLine fX11_tableLine_0 pTab
  dsimp only
  rw [mo_f16, Option.bind_some, kB_8, mo_r16 (by omega), Option.bind_some, h8]
  by_cases z8 : c 8 = 0
  · rw [if_neg (show ¬ (0 : Int32) < nI (c 8) by rw [z8]; decide), if_pos z8]
    obtain ⟨S1, a1, a2, a3⟩ := s_nextM (J := J) (T := T) h1 (wd_k1 hw)
    obtain ⟨S2, v2, b1, b2, b3⟩ := c_aft (J := J) (T := T) a2 (i := 18) (lo := 1) (hi := 20) (by omega) (by omega) (by omega)
    rw [show stN 18 = 6 from rfl] at b2
    generalize hS3 : stR S2 171 (up (S2 171) 0 v2) = S3
    have e1 : fX11_tableLine_19 167 (hp S J T) = fX11_tableLine_58 167 (nI 200) (nI 5) (SB + 19) 167 (nI 1) 171 (hp S3 J T) := by
      unfold fX11_tableLine_19
      rw [mo_g13, Option.bind_some, h13, if_pos (show nI 0 = 0 from rfl)]
      unfold fX11_tableLine_27 fX11_tableLine_28
      rw [mo_isO, Option.bind_some, a1, Option.bind_some]
      unfold fX11_tableLine_31 fX11_tableLine_37 fX11_tableLine_39
      rw [mo_f16, Option.bind_some]
      unfold fX11_tableLine_42
      rw [mo_isO, Option.bind_some, kI_1, kB_20, b1, Option.bind_some]
      unfold fX11_tableLine_45
      rw [kI_0, mo_w16 (by omega), Option.bind_some, stS_R, mo_f16, Option.bind_some, hS3]
      unfold fX11_tableLine_52 fX11_tableLine_54
      rw [kS_200, kI_5, kI_1]
    rw [e1]
    have f3 : frO S S3 := frO_tr (frO_tr (frM_O a3) (frM_O b3)) (by rw [← hS3]; exact frO_171 (up_ne (by omega)))
    cases hq1 : pA y n 6 1 20 (nx y n s) with
    | inl e =>
      rw [hq1] at b2
      have b2' : fTM S2 e := b2
      have t3 : fTM S3 e := by rw [← hS3]; exact fTM_171 b2'
      exact ⟨_, eF1 S3 t3.1, fTM_171 t3, frO_tr f3 (frO_171 ((up_ne (by omega)).trans (up_ne (by omega))))⟩
    | inr b =>
      rw [hq1] at b2
      obtain ⟨b4, b5⟩ := b2
      have t3 : tM S3 y n (nx y n b.2) := by rw [← hS3]; exact tM_171 b5
      rw [bdP_r]
      obtain ⟨S4, v4, d1, d2, d3⟩ := c_aft (J := J) (T := T) t3 (i := 19) (lo := 5) (hi := 200) (by omega) (by omega) (by omega)
      rw [show stN 19 = 7 from rfl] at d2
      generalize hS5 : stR S4 171 (up (S4 171) 1 v4) = S5
      have e2 : fX11_tableLine_58 167 (nI 200) (nI 5) (SB + 19) 167 (nI 1) 171 (hp S3 J T) = fX11_tableLine_73 167 (nI 100) (nI 0) (SB + 20) 167 (nI 2) 171 (hp S5 J T) := by
        unfold fX11_tableLine_58
        rw [mo_isO, Option.bind_some, d1, Option.bind_some]
        unfold fX11_tableLine_61
        rw [mo_w16 (by omega), Option.bind_some, stS_R, mo_f16, Option.bind_some, hS5]
        unfold fX11_tableLine_68 fX11_tableLine_70
        rw [kB_100, kI_0, kI_2]
      rw [e2]
      have f5 : frO S S5 := frO_tr (frO_tr f3 (frM_O d3)) (by rw [← hS5]; exact frO_171 (up_ne (by omega)))
      cases hq2 : pA y n 7 5 200 (nx y n b.2) with
      | inl e =>
        rw [hq2] at d2
        have d2' : fTM S4 e := d2
        have t5 : fTM S5 e := by rw [← hS5]; exact fTM_171 d2'
        exact ⟨_, eF2 S5 t5.1, fTM_171 t5, frO_tr f5 (frO_171 (up_ne (by omega)))⟩
      | inr a =>
        rw [hq2] at d2
        obtain ⟨d4, d5⟩ := d2
        have t5 : tM S5 y n (nx y n a.2) := by rw [← hS5]; exact tM_171 d5
        rw [bdP_r]
        obtain ⟨S6, v6, g1, g2, g3⟩ := c_aft (J := J) (T := T) t5 (i := 20) (lo := 0) (hi := 100) (by omega) (by omega) (by omega)
        rw [show stN 20 = 8 from rfl] at g2
        have e3 : fX11_tableLine_73 167 (nI 100) (nI 0) (SB + 20) 167 (nI 2) 171 (hp S5 J T) = fX11_tableLine_76 167 v6 (nI 2) 171 (hp S6 J T) := by
          unfold fX11_tableLine_73
          rw [mo_isO, Option.bind_some, g1, Option.bind_some]
        rw [e3]
        unfold fX11_tableLine_76
        rw [mo_w16 (by omega), Option.bind_some, stS_R, mo_g13, Option.bind_some, stR_ne (show 167 ≠ 171 by omega)]
        cases hq3 : pA y n 8 0 100 (nx y n a.2) with
        | inl e =>
          rw [hq3] at g2
          have g2' : fTM S6 e := g2
          rw [g2'.1, if_neg (show ¬ nI 1 = 0 by decide)]
          exact ⟨_, rfl, fTM_171 g2', frO_tr (frO_tr f5 (frM_O g3)) (frO_171 (up_ne (by omega)))⟩
        | inr f =>
          rw [hq3] at g2
          obtain ⟨g4, g5⟩ := g2
          rw [g5.2.2.2.1, if_pos (show nI 0 = 0 from rfl), bdP_r]
          unfold fX11_tableLine_84
          rw [mo_f16, Option.bind_some, kB_8, mo_w16 (by omega), Option.bind_some, stS_R, stR_stR, stR_eq, kI_1]
          have x3 : S3 171 = up (S 171) 0 v2 := by rw [← hS3, stR_eq, b3.1 171 (by omega) (by omega), a3.1 171 (by omega) (by omega)]
          have x5 : S5 171 = up (S3 171) 1 v4 := by rw [← hS5, stR_eq, d3.1 171 (by omega) (by omega)]
          have x6 : S6 171 = S5 171 := g3.1 171 (by omega) (by omega)
          have x173 : S6 173 = S 173 := by rw [g3.1 173 (by omega) (by omega), ← hS5, stR_ne (by omega), d3.1 173 (by omega) (by omega), ← hS3, stR_ne (by omega), b3.1 173 (by omega) (by omega), a3.1 173 (by omega) (by omega)]
          generalize hS7 : stR S6 171 (up (up (S6 171) 2 v6) 8 (nI 1)) = S7
          have y7 : S7 171 = up (up (up (up (S 171) 0 (nI b.1)) 1 (nI a.1)) 2 (nI f.1)) 8 (nI 1) := by rw [← hS7, stR_eq, x6, x5, x3, b4, d4, g4]
          have y173 : S7 173 = S 173 := by rw [← hS7, stR_ne (by omega), x173]
          have f7 : frO S S7 := by rw [← hS7]; exact frO_tr (frO_tr f5 (frM_O g3)) (frO_171 ((up_ne (by omega)).trans (up_ne (by omega))))
          refine ⟨S7, rfl, ⟨?_, ?_, ?_⟩, f7⟩
          · show tM S7 y n (nx y n f.2)
            rw [← hS7]; exact tM_171 g5
          · show rwM S7 R (upN (upN (upN (upN c 0 b.1) 1 a.1) 2 f.1) 8 1)
            obtain ⟨r1, r2, r3, r4, r5, r6⟩ := h2
            refine ⟨fun i hi => ?_, fun i q1 q2 => ?_, fun k hk => ?_, fun i q1 q2 => ?_, fun p hq => ?_, fun j q1 q2 => ?_⟩
            · rw [y7]
              by_cases w8 : i = 8
              · rw [w8, up_eq, upN_eq]
              · rw [up_ne w8, upN_ne w8]
                by_cases w2 : i = 2
                · rw [w2, up_eq, upN_eq]
                · rw [up_ne w2, upN_ne w2]
                  by_cases w1 : i = 1
                  · rw [w1, up_eq, upN_eq]
                  · rw [up_ne w1, upN_ne w1]
                    by_cases w0 : i = 0
                    · rw [w0, up_eq, upN_eq]
                    · rw [up_ne w0, upN_ne w0]; exact r1 i hi
            · rw [y7, up_ne (by omega), up_ne (by omega), up_ne (by omega), up_ne (by omega)]; exact r2 i q1 q2
            · rw [y7, up_ne (by omega), up_ne (by omega), up_ne (by omega), up_ne (by omega), up_ne (by omega), up_ne (by omega), up_ne (by omega), up_ne (by omega)]; exact r3 k hk
            · rw [y7, up_ne (by omega), up_ne (by omega), up_ne (by omega), up_ne (by omega)]; exact r4 i q1 q2
            · rw [y173]; exact r5 p hq
            · rw [y173]; exact r6 j q1 q2
          · show wrM S7 y W
            exact wrM_lo h3 (fun j hj => by rw [y7, up_ne (by omega), up_ne (by omega), up_ne (by omega), up_ne (by omega)])
  · rw [if_pos (show (0 : Int32) < nI (c 8) from (show nI 0 < nI (c 8) from ltn (by omega) (by omega))), if_neg z8]
    obtain ⟨S4, g1, g2, g3⟩ := c_wrg (J := J) (T := T) h13 3 s
    refine ⟨S4, ?_, g2, frM_O g3⟩
    unfold fX11_tableLine_10 fX11_tableLine_16
    rw [mo_g4, Option.bind_some, h1.2.2.2.2.1, mo_isO, Option.bind_some, kI_3, g1, Option.bind_some]
    unfold fX11_tableLine_19
    rw [mo_g13, Option.bind_some, g2.1, if_neg (show ¬ nI 1 = 0 by decide)]
    rfl
end RM8

-- THE TEXT: a new name, a told name, the class
set_option maxRecDepth 100000 in
set_option maxHeartbeats 400000 in
theorem om_lt {r : Option Nat} (h : ∀ i, r = some i → i < 5000) : (om r < 0) = (r = none) := by
  cases r with
  | none => exact (eq_true (by decide)).trans (eq_true rfl).symm
  | some i => show (nI i < 0) = _; rw [nI_lt0 (h i rfl)]; exact (eq_false (fun z => by cases z)).symm
set_option maxRecDepth 100000 in
set_option maxHeartbeats 400000 in
theorem lsN_lt {y : Nat → Nat} {n s i : Nat} (h : lsN y n s = some i) : i < 6 := by
  unfold lsN at h
  repeat (split at h; · have := Option.some.inj h; omega)
  cases h
set_option maxRecDepth 100000 in
set_option maxHeartbeats 400000 in
theorem bI_inj {a b : Bool} : (bI a = bI b) = (a = b) := by cases a <;> cases b <;> exact propext (by decide)
section NMD
variable {S : Mem} {J : MeJ} {T : Nat → Nat} {y : Nat → Nat} {n s : Nat} {W : WL}
set_option maxRecDepth 100000 in
set_option maxHeartbeats 400000 in
theorem c_newN (h : tC S y n s) (hW : wrC S y n W) (hL : W.length < 13) {ofP : Bool} {num code : Nat} (hcode : code = if ofP then num else 5 + num) (hnum : num < if ofP then 5 else 8) : ∃ S' b, gX8_findsNewName 1 (bI ofP) (nI num) (hp S J T) = some (b, hp S' J T) ∧ outC S' b (pNew y n W s) (fun l => tC S' y n (nx y n s) ∧ wrC S' y n (W ++ [(s, l, code)])) ∧ frW S S' := by
  have hK := tkK_le y n s
  have h27 : ∃ S', fX8_findsNewName_27 1 (hp S J T) = some (nI 0, hp S' J T) ∧ S' 1 1 = nI 1 ∧ S' 1 2 = nI s ∧ frR S S' := by
    obtain ⟨S4, f1, f2, f3, f4⟩ := c_failC (J := J) (T := T) h 1
    refine ⟨S4, ?_, f2, f3, f4⟩
    unfold fX8_findsNewName_27 fX8_findsNewName_29
    rw [rd_isO, Option.bind_some, kI_1, f1, Option.bind_some]
    unfold fX8_findsNewName_32
    rw [if_pos o_0]
  obtain ⟨S1, g1, g2, g3, g4⟩ := h27
  unfold gX8_findsNewName fX8_findsNewName_0 pNew pNm
  rw [rd_g12, Option.bind_some, h.2.2.2.2.2.1, kI_2]
  by_cases z2 : tkK y n s = 2
  · obtain ⟨t1, t2, t3, t4, t5⟩ := tk2 z2
    have hn7 := h.1.1
    rw [if_pos (show nI (tkK y n s) = nI 2 by rw [z2])]
    unfold fX8_findsNewName_8 fX8_findsNewName_9
    rw [rd_isO, Option.bind_some, c_lsort h, Option.bind_some]
    unfold fX8_findsNewName_12
    have hol := om_lt (r := lsN y n s) (fun i hi => by have := lsN_lt hi; omega)
    by_cases zl : lsN y n s = none
    · rw [if_pos (hol.mpr zl), if_pos ⟨z2, zl⟩]
      unfold fX8_findsNewName_15
      rw [rd_g8, Option.bind_some, rd_f4, Option.bind_some, rd_l4, Option.bind_some, hW.1, if_pos (ltn hL (by omega))]
      unfold fX8_findsNewName_33 fX8_findsNewName_34
      obtain ⟨r, r1, r2, r3⟩ := c_wHere (J := J) (T := T) h hW z2
      rw [rd_isO, Option.bind_some, r1, Option.bind_some]
      unfold fX8_findsNewName_37
      have hor := om_lt (r := r) (fun i hi => by have := r3 i hi; omega)
      show ∃ S' b, _ ∧ outC S' b (if fdW y s (tkE y n s - s) W = none then .inr (tkE y n s - s) else .inl (3, s)) _ ∧ _
      cases r with
      | some i =>
        obtain ⟨w, w1, w2⟩ := r2
        rw [if_neg (fun q => by have := hor.mp q; cases this), if_neg (by rw [w2]; exact fun q => by cases q)]
        obtain ⟨S4, f1, f2, f3, f4⟩ := c_failC (J := J) (T := T) h 3
        refine ⟨S4, nI 0, ?_, ⟨rfl, f2, f3⟩, frR_W f4⟩
        unfold fX8_findsNewName_40 fX8_findsNewName_42
        rw [rd_isO, Option.bind_some, kI_3, f1, Option.bind_some]
        unfold fX8_findsNewName_45
        rw [if_pos o_0]
      | none =>
        rw [if_pos (hor.mpr rfl), if_pos (show fdW y s (tkE y n s - s) W = none from r2)]
        generalize hS6 : stR (stR (stR (stR (stR S 3 (up (S 3) W.length (nI s))) 4 (up (S 4) W.length (nI (tkE y n s)))) 5 (up (S 5) W.length (bI ofP))) 6 (up (S 6) W.length (nI num))) 1 (up (S 1) 8 (nI (W.length + 1))) = S6
        have c1 : S6 1 = up (S 1) 8 (nI (W.length + 1)) := by rw [← hS6, stR_eq]
        have c3 : S6 3 = up (S 3) W.length (nI s) := by rw [← hS6, stR_ne (by omega), stR_ne (by omega), stR_ne (by omega), stR_ne (by omega), stR_eq]
        have c4 : S6 4 = up (S 4) W.length (nI (tkE y n s)) := by rw [← hS6, stR_ne (by omega), stR_ne (by omega), stR_ne (by omega), stR_eq]
        have c5 : S6 5 = up (S 5) W.length (bI ofP) := by rw [← hS6, stR_ne (by omega), stR_ne (by omega), stR_eq]
        have c6 : S6 6 = up (S 6) W.length (nI num) := by rw [← hS6, stR_ne (by omega), stR_eq]
        have co : ∀ c, c ∉ [1, 3, 4, 5, 6] → S6 c = S c := fun c hc => by
          simp only [List.mem_cons, List.not_mem_nil, or_false, not_or] at hc
          rw [← hS6, stR_ne hc.1, stR_ne hc.2.2.2.2, stR_ne hc.2.2.2.1, stR_ne hc.2.2.1, stR_ne hc.2.1]
        have ht6 : tC S6 y n s := ⟨⟨h.1.1, fun k hk => by rw [co 2 (by decide)]; exact h.1.2 k hk⟩, h.2.1, by rw [c1, up_ne (by omega)]; exact h.2.2.1, by rw [c1, up_ne (by omega)]; exact h.2.2.2.1, by rw [c1, up_ne (by omega)]; exact h.2.2.2.2.1, by rw [c1, up_ne (by omega)]; exact h.2.2.2.2.2.1, by rw [c1, up_ne (by omega), up_ne (by omega)]; exact h.2.2.2.2.2.2⟩
        have hw6 : wrC S6 y n (W ++ [(s, tkE y n s - s, code)]) := by
          refine ⟨by rw [c1, up_eq, List.length_append]; rfl, by rw [List.length_append]; show W.length + 1 ≤ 13; omega, fun i w hw => ?_⟩
          rw [c3, c4, c5, c6]
          by_cases zi : i < W.length
          · rw [List.getElem?_append_left zi] at hw
            rw [up_ne (by omega), up_ne (by omega), up_ne (by omega), up_ne (by omega)]
            exact hW.2.2 i w hw
          · rw [List.getElem?_append_right (by omega)] at hw
            have ei : i - W.length = 0 := by
              rcases Nat.eq_zero_or_pos (i - W.length) with q | q
              · exact q
              · rw [List.getElem?_eq_none (by show 1 ≤ _; omega)] at hw; cases hw
            rw [ei] at hw
            have hw' := Option.some.inj hw
            have hiL : i = W.length := by omega
            rw [hiL, up_eq, up_eq, up_eq, up_eq, ← hw']
            refine ⟨rfl, congrArg nI (by show tkE y n s = s + (tkE y n s - s); omega), ?_, ?_, by show s + (tkE y n s - s) ≤ n; have := (tkE_b (y := y) h.2.1).2; omega, ?_, fun k hk => t4 (s + k) (by omega) (by have hk' : k < tkE y n s - s := hk; omega)⟩
            · show bI ofP = bI (decide (code < 5))
              cases ofP with
              | true => rw [if_pos rfl] at hcode hnum; rw [decide_eq_true (by omega)]
              | false => rw [if_neg (by decide)] at hcode hnum; rw [decide_eq_false (by omega)]
            · show nI num = nI (if code < 5 then code else code - 5)
              cases ofP with
              | true => rw [if_pos rfl] at hcode hnum; rw [if_pos (by omega), hcode]
              | false => rw [if_neg (by decide)] at hcode hnum; rw [if_neg (by omega), hcode, show 5 + num - 5 = num by omega]
            · show code < 13
              cases ofP with
              | true => rw [if_pos rfl] at hcode hnum; omega
              | false => rw [if_neg (by decide)] at hcode hnum; omega
        obtain ⟨S7, a1, a2, a3⟩ := s_stepR (J := J) (T := T) ht6
        refine ⟨S7, nI 1, ?_, ⟨rfl, a2, wrC_fr hw6 a3⟩, frW_tr ⟨co, fun j z1 z2 z3 z4 z5 z6 z7 => by rw [c1, up_ne z3]⟩ (frR_W a3)⟩
        unfold fX8_findsNewName_46
        rw [rd_f4, Option.bind_some, rd_g8, Option.bind_some, rd_g10, Option.bind_some, hW.1, h.2.2.2.1, rd_w4 hL, Option.bind_some, stS_R]
        rw [rd_f5, Option.bind_some, rd_g8, Option.bind_some, rd_g11, Option.bind_some, stR_ne (show 1 ≠ 3 by omega), hW.1, h.2.2.2.2.1, rd_w5 hL, Option.bind_some, stS_R, stR_ne (show 4 ≠ 3 by omega)]
        rw [rd_f6, Option.bind_some, rd_g8, Option.bind_some, stR_ne (show 1 ≠ 4 by omega), stR_ne (show 1 ≠ 3 by omega), hW.1, rd_w6 hL, Option.bind_some, stS_R, nar_b, stR_ne (show 5 ≠ 4 by omega), stR_ne (show 5 ≠ 3 by omega)]
        rw [rd_f7, Option.bind_some, rd_g8, Option.bind_some, stR_ne (show 1 ≠ 5 by omega), stR_ne (show 1 ≠ 4 by omega), stR_ne (show 1 ≠ 3 by omega), hW.1, rd_w7 hL, Option.bind_some, stS_R, stR_ne (show 6 ≠ 5 by omega), stR_ne (show 6 ≠ 4 by omega), stR_ne (show 6 ≠ 3 by omega)]
        rw [rd_g8, Option.bind_some, rd_p8, Option.bind_some, stS_R, stR_ne (show 1 ≠ 6 by omega), stR_ne (show 1 ≠ 5 by omega), stR_ne (show 1 ≠ 4 by omega), stR_ne (show 1 ≠ 3 by omega), hW.1, kI_1, nI_add, hS6]
        unfold fX8_findsNewName_103
        rw [rd_isO, Option.bind_some, a1, Option.bind_some]
        unfold fX8_findsNewName_106
        rw [kI_1, if_pos o_1]
    · rw [if_neg (fun q => zl (hol.mp q)), if_neg (fun q => zl q.2)]
      exact ⟨S1, nI 0, g1, ⟨rfl, g2, g3⟩, frR_W g4⟩
  · rw [if_neg (show ¬ nI (tkK y n s) = nI 2 by rw [eq_eq (by omega) (by omega)]; exact z2), if_neg (fun q => z2 q.1)]
    exact ⟨S1, nI 0, g1, ⟨rfl, g2, g3⟩, frR_W g4⟩
def tdO (S S' : Mem) (v : Int32) (m : Nat) (x : PR Nat) : Prop := match x with
  | .inl e => v = m1 ∧ S' 1 1 = nI e.1 ∧ S' 1 2 = nI e.2
  | .inr p => S' = S ∧ p < m ∧ ∃ i, i < 13 ∧ v = nI i ∧ S 6 i = nI p
set_option maxRecDepth 100000 in
set_option maxHeartbeats 400000 in
theorem c_toldN (h : tC S y n s) (hW : wrC S y n W) {ofP : Bool} {lo hi m : Nat} (hlo : lo = if ofP then 0 else 5) (hhi : hi = if ofP then 4 else 12) (hm : m = if ofP then 5 else 8) : ∃ S' v, gX8_toldNameHere 1 (bI ofP) (hp S J T) = some (v, hp S' J T) ∧ tdO S S' v m (pTd y n W lo hi s) ∧ frR S S' := by
  have hK := tkK_le y n s
  have h15 : ∃ S', fX8_toldNameHere_15 1 (hp S J T) = some (m1, hp S' J T) ∧ S' 1 1 = nI 1 ∧ S' 1 2 = nI s ∧ frR S S' := by
    obtain ⟨S4, f1, f2, f3, f4⟩ := c_failC (J := J) (T := T) h 1
    refine ⟨S4, ?_, f2, f3, f4⟩
    unfold fX8_toldNameHere_15 fX8_toldNameHere_17
    rw [rd_isO, Option.bind_some, kI_1, f1, Option.bind_some]
    unfold fX8_toldNameHere_20
    rw [kI_n]
  have h42 : ∃ S', fX8_toldNameHere_42 1 (hp S J T) = some (m1, hp S' J T) ∧ S' 1 1 = nI 2 ∧ S' 1 2 = nI s ∧ frR S S' := by
    obtain ⟨S4, f1, f2, f3, f4⟩ := c_failC (J := J) (T := T) h 2
    refine ⟨S4, ?_, f2, f3, f4⟩
    unfold fX8_toldNameHere_42 fX8_toldNameHere_44
    rw [rd_isO, Option.bind_some, kI_2, f1, Option.bind_some]
    unfold fX8_toldNameHere_47
    rw [kI_n]
  obtain ⟨S1, g1, g2, g3, g4⟩ := h15
  obtain ⟨S2, u1, u2, u3, u4⟩ := h42
  unfold gX8_toldNameHere fX8_toldNameHere_0 pTd pNm
  rw [rd_g12, Option.bind_some, h.2.2.2.2.2.1, kI_2]
  by_cases z2 : tkK y n s = 2
  · rw [if_pos (show nI (tkK y n s) = nI 2 by rw [z2])]
    unfold fX8_toldNameHere_8 fX8_toldNameHere_9
    rw [rd_isO, Option.bind_some, c_lsort h, Option.bind_some]
    unfold fX8_toldNameHere_12
    have hol := om_lt (r := lsN y n s) (fun i hi => by have := lsN_lt hi; omega)
    by_cases zl : lsN y n s = none
    · rw [if_pos (hol.mpr zl), if_pos ⟨z2, zl⟩]
      unfold fX8_toldNameHere_23 fX8_toldNameHere_24
      obtain ⟨r, r1, r2, r3⟩ := c_wHere (J := J) (T := T) h hW z2
      rw [rd_isO, Option.bind_some, r1, Option.bind_some]
      unfold fX8_toldNameHere_27
      have hor := om_lt (r := r) (fun i hi => by have := r3 i hi; omega)
      show ∃ S' v, _ ∧ tdO S S' v m (match fdW y s (tkE y n s - s) W with
        | none => .inl (2, s)
        | some c => if lo ≤ c ∧ c ≤ hi then .inr (c - lo) else .inl (2, s)) ∧ _
      cases r with
      | none =>
        rw [if_pos (hor.mpr rfl)]
        have r2' : fdW y s (tkE y n s - s) W = none := r2
        rw [r2']
        exact ⟨S2, m1, u1, ⟨rfl, u2, u3⟩, u4⟩
      | some i =>
        obtain ⟨w, w1, w2⟩ := r2
        have hi13 := r3 i rfl
        obtain ⟨q1, q2, q3, q4, q5, q6, q7⟩ := hW.2.2 i w w1
        rw [if_neg (fun q => by have := hor.mp q; cases this), w2]
        unfold fX8_toldNameHere_32
        have hri : om (some i) = nI i := rfl
        rw [rd_f6, Option.bind_some, hri, rd_r6 hi13, Option.bind_some, q3]
        by_cases zp : decide (w.2.2 < 5) = ofP
        · rw [if_pos (by rw [zp])]
          have hin : lo ≤ w.2.2 ∧ w.2.2 ≤ hi := by
            cases ofP with
            | true => rw [if_pos rfl] at hlo hhi; have := of_decide_eq_true zp; omega
            | false => rw [if_neg (by decide)] at hlo hhi; have := of_decide_eq_false zp; omega
          show ∃ S' v, _ ∧ tdO S S' v m (if lo ≤ w.2.2 ∧ w.2.2 ≤ hi then .inr (w.2.2 - lo) else .inl (2, s)) ∧ _
          rw [if_pos hin]
          refine ⟨S, nI i, rfl, ⟨rfl, ?_, i, hi13, rfl, ?_⟩, frR_rf S⟩
          · cases ofP with
            | true => rw [if_pos rfl] at hlo hhi hm; omega
            | false => rw [if_neg (by decide)] at hlo hhi hm; omega
          · rw [q4]
            cases ofP with
            | true => rw [if_pos rfl] at hlo hhi; rw [if_pos (by omega), hlo]; rfl
            | false => rw [if_neg (by decide)] at hlo hhi; rw [if_neg (by omega), hlo]
        · rw [if_neg (by rw [bI_inj]; exact zp)]
          have hin : ¬ (lo ≤ w.2.2 ∧ w.2.2 ≤ hi) := by
            intro q
            cases ofP with
            | true => rw [if_pos rfl] at hlo hhi; exact zp (decide_eq_true (by omega))
            | false => rw [if_neg (by decide)] at hlo hhi; exact zp (decide_eq_false (by omega))
          show ∃ S' v, _ ∧ tdO S S' v m (if lo ≤ w.2.2 ∧ w.2.2 ≤ hi then .inr (w.2.2 - lo) else .inl (2, s)) ∧ _
          rw [if_neg hin]
          exact ⟨S2, m1, u1, ⟨rfl, u2, u3⟩, u4⟩
    · rw [if_neg (fun q => zl (hol.mp q)), if_neg (fun q => zl q.2)]
      exact ⟨S1, m1, g1, ⟨rfl, g2, g3⟩, g4⟩
  · rw [if_neg (show ¬ nI (tkK y n s) = nI 2 by rw [eq_eq (by omega) (by omega)]; exact z2), if_neg (fun q => z2 q.1)]
    exact ⟨S1, m1, g1, ⟨rfl, g2, g3⟩, g4⟩
end NMD

-- THE TEXT, the reference: a new name
def frN (S S' : Mem) : Prop := (∀ c, c ≠ 167 → c ≠ 169 → c ≠ 171 → S' c = S c) ∧ (∀ j, j < 71 → S' 171 j = S 171 j) ∧ (∀ j, j ∉ [4, 5, 6, 7, 8, 9, 10, 13] → S' 167 j = S 167 j) ∧ kp9 S S'
set_option maxRecDepth 100000 in
set_option maxHeartbeats 400000 in
theorem frM_N {S S' : Mem} (h : frM S S') : frN S S' := ⟨fun c a b _ => h.1 c a b, fun j _ => by rw [h.1 171 (by omega) (by omega)], h.2⟩
set_option maxRecDepth 100000 in
set_option maxHeartbeats 400000 in
theorem frN_tr {S S' S'' : Mem} (h : frN S S') (q : frN S' S'') : frN S S'' := ⟨fun c a b d => (q.1 c a b d).trans (h.1 c a b d), fun j a => (q.2.1 j a).trans (h.2.1 j a), fun j a => (q.2.2.1 j a).trans (h.2.2.1 j a), kp9_tr h.2.2.2 q.2.2.2⟩
set_option maxRecDepth 100000 in
set_option maxHeartbeats 400000 in
theorem tM_171 {S : Mem} {y : Nat → Nat} {n s : Nat} {X : Row} (h : tM S y n s) : tM (stR S 171 X) y n s := by
  have e1 : stR S 171 X 167 = S 167 := stR_ne (by omega)
  have e2 : stR S 171 X 168 = S 168 := stR_ne (by omega)
  have e3 : stR S 171 X 169 = S 169 := stR_ne (by omega)
  unfold tM tpM at h ⊢
  rw [e1, e2, e3]
  exact h
set_option maxRecDepth 100000 in
set_option maxHeartbeats 400000 in
theorem tM_y {S : Mem} {y : Nat → Nat} {n s : Nat} (h : tM S y n s) : ∀ i, tkK y n s = 2 → i < tkE y n s - s → y (s + i) < 5000 := fun i _ hi => by
  have h1 := (tkE_b (y := y) h.2.1).2
  have h2 := (h.1.2 (s + i) (by omega)).1
  omega
set_option maxRecDepth 100000 in
set_option maxHeartbeats 400000 in
theorem wrM_cg {S S' : Mem} {y : Nat → Nat} {W : WL} (h : wrM S y W) (e : S' 171 = S 171) : wrM S' y W := by
  unfold wrM at h ⊢
  rw [e]
  exact h
section RM7
variable {S : Mem} {J : MeJ} {T : Nat → Nat} {y : Nat → Nat} {n s : Nat} {W : WL}
set_option maxRecDepth 100000 in
set_option maxHeartbeats 400000 in
theorem c_nwF (h : S 167 13 = nI 1) {v : Int32} : gX11_newName 167 v (hp S J T) = some (hp S J T) := by
  unfold gX11_newName fX11_newName_0
  rw [mo_g13, Option.bind_some, h, if_neg (show ¬ nI 1 = 0 by decide)]
  rfl
set_option maxRecDepth 100000 in
set_option maxHeartbeats 400000 in
theorem c_nwL {code l : Nat} (hc : code < 13) (h8 : S 167 8 = nI l) (hl : l ≤ 8) (hs : ∀ i, i < l → S 169 i = nI (y (s + i))) : ∀ m k g (X : Row), k + m = l → m < g → (∀ i, i < k → X (84 + 8 * code + i) = nI (y (s + i))) → (∀ j, (j < 84 + 8 * code ∨ 92 + 8 * code ≤ j) → X j = S 171 j) → ∃ X' : Row, lX11_newName_45 g 167 (nI code) (nI k) (hp (stR S 171 X) J T) = fX11_newName_79 167 (nI code) (hp (stR S 171 X') J T) ∧ (∀ i, i < l → X' (84 + 8 * code + i) = nI (y (s + i))) ∧ ∀ j, (j < 84 + 8 * code ∨ 92 + 8 * code ≤ j) → X' j = S 171 j := by
  intro m
  induction m with
  | zero =>
    intro k g X hk hg h1 h2
    obtain ⟨g, rfl⟩ : ∃ z, g = z + 1 := ⟨g - 1, by omega⟩
    refine ⟨X, ?_, fun i hi => h1 i (by omega), h2⟩
    unfold lX11_newName_45 fX11_newName_45
    rw [mo_g8, Option.bind_some, stR_ne (show 167 ≠ 171 by omega), h8, if_neg (nltn (show ¬ k < l by omega) (by omega) (by omega))]
  | succ m ih =>
    intro k g X hk hg h1 h2
    obtain ⟨g, rfl⟩ : ∃ z, g = z + 1 := ⟨g - 1, by omega⟩
    obtain ⟨X', a1, a2, a3⟩ := ih (k + 1) g (up X (84 + 8 * code + k) (nI (y (s + k)))) (by omega) (by omega) (fun i hi => by
      by_cases z : i = k
      · rw [z, up_eq]
      · rw [up_ne (by omega)]; exact h1 i (by omega)) (fun j hj => by rw [up_ne (by omega)]; exact h2 j hj)
    refine ⟨X', ?_, a2, a3⟩
    rw [← a1]
    conv => lhs; unfold lX11_newName_45
    unfold fX11_newName_45
    rw [mo_g8, Option.bind_some, stR_ne (show 167 ≠ 171 by omega), h8, if_pos (ltn (show k < l by omega) (by omega))]
    unfold fX11_newName_53
    rw [mo_f16, Option.bind_some, mo_f12, Option.bind_some, mo_r12 (by omega), Option.bind_some, stR_ne (show 169 ≠ 171 by omega), hs k (by omega), kB_84, kB_8, ix8, nI_add, mo_w16 (by omega), Option.bind_some, stS_R, stR_stR, stR_eq, kI_1, nI_add]
set_option maxRecDepth 100000 in
set_option maxHeartbeats 400000 in
theorem c_nwN (h : tM S y n s) (hW : wrM S y W) {code : Nat} (hc : code < 13) (hn : ∀ w, w ∈ W → w.2.2 ≠ code) : ∃ S', gX11_newName 167 (nI code) (hp S J T) = some (hp S' J T) ∧ outM S' (pNew y n W s) (fun l => tM S' y n (nx y n s) ∧ wrM S' y (W ++ [(s, l, code)])) ∧ frN S S' := by
  have h13 := h.2.2.2.1
  obtain ⟨S1, a1, ⟨a2, a3⟩, a4⟩ := c_mNm (J := J) (T := T) h
  have e0 : gX11_newName 167 (nI code) (hp S J T) = fX11_newName_12 167 (nI code) (hp S1 J T) := by
    unfold gX11_newName fX11_newName_0
    rw [mo_g13, Option.bind_some, h13, if_pos (show nI 0 = 0 from rfl)]
    unfold fX11_newName_8 fX11_newName_9
    rw [mo_isO, Option.bind_some, a1, Option.bind_some]
  have e35 : ∀ S' : Mem, S' 167 13 = nI 1 → fX11_newName_35 167 (nI code) (hp S' J T) = some (hp S' J T) := fun S' h' => by
    unfold fX11_newName_35
    rw [mo_g13, Option.bind_some, h', if_neg (show ¬ nI 1 = 0 by decide)]
    rfl
  rw [e0]
  unfold fX11_newName_12 pNew pNm
  rw [mo_g13, Option.bind_some]
  by_cases z : tkK y n s = 2 ∧ lsN y n s = none
  · rw [a2 z, h13, if_pos (show nI 0 = 0 from rfl), if_pos z]
    obtain ⟨t1, t2, t3, t4, t5⟩ := tk2 z.1
    obtain ⟨l1, l2⟩ := h.2.2.2.2.2.2.2.2 z.1
    have hy := tM_y h
    have ef := c_find (J := J) (T := T) (s := s) hW l1 t3 (fun i hi => ⟨l2 i hi, hy i z.1 hi⟩)
    generalize hl : tkE y n s - s = l at *
    unfold fX11_newName_19 fX11_newName_20
    rw [mo_isO, Option.bind_some, ef, Option.bind_some]
    unfold fX11_newName_23
    show ∃ S', _ ∧ outM S' (if fdW y s l W = none then .inr l else .inl (3, s)) _ ∧ _
    cases zf : fdW y s l W with
    | some d =>
      obtain ⟨w, q1, q2⟩ := fdW_mem zf
      have hd := (hW.2.1 w q1).1
      obtain ⟨S4, g1, g2, g3⟩ := c_wrg (J := J) (T := T) h13 3 s
      rw [if_neg (show ¬ om (some d) < 0 by show ¬ nI d < 0; rw [nI_lt0 (by omega)]; exact fun q => q), if_neg (show ¬ some d = none from fun q => by cases q)]
      refine ⟨S4, ?_, g2, frM_N g3⟩
      unfold fX11_newName_26 fX11_newName_32
      rw [mo_g4, Option.bind_some, h.2.2.2.2.1, mo_isO, Option.bind_some, kI_3, g1, Option.bind_some]
      exact e35 S4 g2.1
    | none =>
      rw [if_pos (show om none < 0 by decide), if_pos rfl]
      have hS : stR S 171 (S 171) = S := by
        funext c
        by_cases zc : c = 171
        · rw [zc, stR_eq]
        · rw [stR_ne zc]
      obtain ⟨X, x1, x2, x3⟩ := c_nwL (S := S) (J := J) (T := T) (y := y) (s := s) hc l1 (by omega) l2 l 0 FU (S 171) (by omega) (FU_lt (by omega)) (fun i hi => absurd hi (Nat.not_lt_zero _)) (fun j _ => rfl)
      rw [hS] at x1
      generalize hS2 : stR S 171 (up X (71 + code) (nI l)) = S2
      have c171 : S2 171 = up X (71 + code) (nI l) := by rw [← hS2, stR_eq]
      have tM2 : tM S2 y n s := by rw [← hS2]; exact tM_171 h
      obtain ⟨S3, g1, g2, g3⟩ := s_nextM (J := J) (T := T) tM2 (by omega)
      have f2 : frN S S2 := ⟨fun c _ _ z3 => by rw [← hS2, stR_ne z3], fun j hj => by rw [c171, up_ne (by omega)]; exact x3 j (by omega), fun j _ => by rw [← hS2, stR_ne (by omega)], kp9_eq (by rw [← hS2, stR_ne (by omega)])⟩
      refine ⟨S3, ?_, ⟨g2, wrM_cg (S := S2) ?_ (g3.1 171 (by omega) (by omega))⟩, frN_tr f2 (frM_N g3)⟩
      · unfold fX11_newName_35
        rw [mo_g13, Option.bind_some, h13, if_pos (show nI 0 = 0 from rfl)]
        unfold fX11_newName_43
        rw [kI_0, x1]
        unfold fX11_newName_79
        rw [mo_f16, Option.bind_some, mo_g8, Option.bind_some, stR_ne (show 167 ≠ 171 by omega), l1, kB_71, nI_add, mo_w16 (by omega), Option.bind_some, stS_R, stR_stR, stR_eq, hS2]
        unfold fX11_newName_93
        rw [mo_isO, Option.bind_some, g1, Option.bind_some]
        rfl
      · refine ⟨uq_app hW.1 zf, fun w hw => ?_, fun d hd hw => ?_⟩
        · rcases List.mem_append.mp hw with q | q
          · obtain ⟨b1, b2, b3, b4, b5⟩ := hW.2.1 w q
            have hne := hn w q
            refine ⟨b1, b2, b3, ?_, fun i hi => ?_⟩
            · rw [c171, up_ne (by omega), x3 _ (by omega)]; exact b4
            · rw [c171, up_ne (by omega), x3 _ (by omega)]; exact b5 i hi
          · rw [List.mem_singleton.mp q]
            refine ⟨hc, by show 0 < l; omega, by show l ≤ 8; omega, ?_, fun i hi => ?_⟩
            · show S2 171 (71 + code) = nI l
              rw [c171, up_eq]
            · have hi' : i < l := hi
              show S2 171 (84 + 8 * code + i) = nI (y (s + i)) ∧ y (s + i) < 5000
              rw [c171, up_ne (by omega)]
              exact ⟨x2 i hi', hy i z.1 hi'⟩
        · have hd1 : code ≠ d := hw (s, l, code) (List.mem_append.mpr (Or.inr (List.mem_singleton.mpr rfl)))
          rw [c171, up_ne (by omega), x3 _ (by omega)]
          exact hW.2.2 d hd (fun w q => hw w (List.mem_append.mpr (Or.inl q)))
  · have hF := a3 z
    rw [hF.1, if_neg (show ¬ nI 1 = 0 by decide), if_neg z]
    refine ⟨S1, ?_, hF, frM_N a4⟩
    exact e35 S1 hF.1
set_option maxRecDepth 100000 in
set_option maxHeartbeats 400000 in
theorem c_perH (h : tM S y n s) (hW : wrM S y W) : ∃ S' v, gX11_personHere 167 (hp S J T) = some (v, hp S' J T) ∧ outM S' (pTd y n W 0 4 s) (fun p => v = nI p ∧ S' = S) ∧ frM S S' := by
  obtain ⟨S1, v, a1, a2, a3⟩ := c_nmd (J := J) (T := T) h hW (tM_y h) (lo := 0) (hi := 4) (by omega) (by omega) (by decide)
  refine ⟨S1, v, ?_, a2, a3⟩
  unfold gX11_personHere fX11_personHere_0 fX11_personHere_3
  rw [mo_isO, Option.bind_some, kI_0, kI_4, a1, Option.bind_some]
  rfl
set_option maxRecDepth 100000 in
set_option maxHeartbeats 400000 in
theorem c_dshH (h : tM S y n s) (hW : wrM S y W) : ∃ S' v, gX11_dishHere 167 (hp S J T) = some (v, hp S' J T) ∧ outM S' (pTd y n W 5 12 s) (fun p => v = nI p ∧ S' = S) ∧ frM S S' := by
  obtain ⟨S1, v, a1, a2, a3⟩ := c_nmd (J := J) (T := T) h hW (tM_y h) (lo := 5) (hi := 12) (by omega) (by omega) (by decide)
  refine ⟨S1, v, ?_, a2, a3⟩
  unfold gX11_dishHere fX11_dishHere_0 fX11_dishHere_4
  rw [mo_isO, Option.bind_some, kI_5, kB_12, a1, Option.bind_some]
  rfl
end RM7

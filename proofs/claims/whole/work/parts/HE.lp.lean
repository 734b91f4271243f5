-- THE TEXT, the reference: all its lines
set_option maxRecDepth 100000 in
set_option maxHeartbeats 400000 in
theorem wd_k2 {y : Nat → Nat} {n s q : Nat} (h : wdB y n s q = true) : tkK y n s = 2 := by
  unfold wdB at h
  rw [Bool.and_eq_true] at h
  exact of_decide_eq_true h.1
set_option maxRecDepth 100000 in
set_option maxHeartbeats 400000 in
theorem ls_k2 {y : Nat → Nat} {n s k : Nat} (h : lsN y n s = some k) : tkK y n s = 2 := by
  unfold lsN at h
  by_cases z0 : wdB y n s 0 = true
  · exact wd_k2 z0
  · rw [if_neg z0] at h
    by_cases z1 : wdB y n s 1 = true
    · exact wd_k2 z1
    · rw [if_neg z1] at h
      by_cases z2 : wdB y n s 2 = true
      · exact wd_k2 z2
      · rw [if_neg z2] at h
        by_cases z3 : wdB y n s 3 = true
        · exact wd_k2 z3
        · rw [if_neg z3] at h
          by_cases z4 : wdB y n s 4 = true
          · exact wd_k2 z4
          · rw [if_neg z4] at h
            by_cases z5 : wdB y n s 5 = true
            · exact wd_k2 z5
            · rw [if_neg z5] at h; cases h
set_option maxRecDepth 100000 in
set_option maxHeartbeats 400000 in
theorem pA_s {y : Nat → Nat} {n q lo hi s : Nat} {v : Nat × Nat} (h : pA y n q lo hi s = .inr v) : v.2 = nx y n s := by
  unfold pA at h
  obtain ⟨s1, h1, h⟩ := bdP_inv h
  obtain ⟨w, _, h2⟩ := bdP_inv h
  rw [← Sum.inr.inj h2]
  unfold pW at h1
  by_cases z : wdB y n s q = true
  · rw [if_pos z] at h1; exact (Sum.inr.inj h1).symm
  · rw [if_neg z] at h1; cases h1
set_option maxRecDepth 100000 in
set_option maxHeartbeats 400000 in
theorem pBeg_8 {q : PSt} {m i a : Nat} (h : pBeg q m i = .inr a) : q.2.2.1 8 ≠ 0 := by
  unfold pBeg at h
  by_cases z : q.2.2.1 i < m
  · rw [if_pos z] at h
    by_cases z8 : q.2.2.1 8 = 0
    · rw [if_pos z8] at h; cases h
    · exact z8
  · rw [if_neg z] at h; cases h
set_option maxRecDepth 100000 in
set_option maxHeartbeats 400000 in
theorem pLin_on {y : Nat → Nat} {n : Nat} {q q' : PSt} (hs : q.2.2.2 ≤ n) (e : pLin y n q = .inr q') (hb : q.2.2.1 3 = 0 ∨ q.2.2.1 8 ≠ 0) : q.2.2.2 < q'.2.2.2 ∧ q'.2.2.2 ≤ n ∧ (q'.2.2.1 3 = 0 ∨ q'.2.2.1 8 ≠ 0) := by
  have hk : tkK y n q.2.2.2 = 2 := by
    cases hl : lsN y n q.2.2.2 with
    | none => unfold pLin at e; rw [hl] at e; cases e
    | some k => exact ls_k2 hl
  have h1 : q.2.2.2 < nx y n q.2.2.2 := by
    have a1 := (tk2 hk).2.2.2.2
    have a2 := (tkS_b (y := y) (tkE_b (y := y) hs).2).1
    unfold nx
    omega
  have h2 := nx_b (y := y) hs
  have h3 := nx_b (y := y) h2.2
  have h4 := nx_b (y := y) h3.2
  have h5 := nx_b (y := y) h4.2
  have h6 := nx_b (y := y) h5.2
  have h7 := nx_b (y := y) h6.2
  have h8 := nx_b (y := y) h7.2
  unfold pLin at e
  split at e
  · cases e
  · unfold pTab at e
    by_cases z : q.2.2.1 8 = 0
    · rw [if_pos z] at e
      obtain ⟨b, b1, e⟩ := bdP_inv e
      obtain ⟨a, a1, e⟩ := bdP_inv e
      obtain ⟨f, f1, e⟩ := bdP_inv e
      rw [← Sum.inr.inj e]
      have x1 := pA_s b1
      rw [x1] at a1
      have x2 := pA_s a1
      rw [x2] at f1
      have x3 := pA_s f1
      refine ⟨?_, ?_, Or.inr ?_⟩
      · show q.2.2.2 < nx y n f.2
        rw [x3]; omega
      · show nx y n f.2 ≤ n
        rw [x3]; omega
      · show upN (upN (upN (upN q.2.2.1 0 b.1) 1 a.1) 2 f.1) 8 1 8 ≠ 0
        rw [upN_eq]; omega
    · rw [if_neg z] at e; cases e
  · unfold pPer at e
    obtain ⟨_, z1, e⟩ := bdP_inv e
    obtain ⟨l, _, e⟩ := bdP_inv e
    obtain ⟨kd, _, e⟩ := bdP_inv e
    obtain ⟨hu, z4, e⟩ := bdP_inv e
    obtain ⟨nd, z5, e⟩ := bdP_inv e
    rw [← Sum.inr.inj e]
    have x1 := pA_s z4
    rw [x1] at z5
    have x2 := pA_s z5
    have z8 := pBeg_8 z1
    refine ⟨?_, ?_, Or.inr ?_⟩
    · show q.2.2.2 < nx y n nd.2
      rw [x2]; omega
    · show nx y n nd.2 ≤ n
      rw [x2]; omega
    · show upN q.2.2.1 3 (q.2.2.1 3 + 1) 8 ≠ 0
      rw [upN_ne (by omega)]; exact z8
  · unfold pNam at e
    obtain ⟨_, z1, e⟩ := bdP_inv e
    obtain ⟨l, _, e⟩ := bdP_inv e
    obtain ⟨f, z3, e⟩ := bdP_inv e
    cases za : anyR q.1 19 (nI f.1) (q.2.2.1 4) with
    | true => rw [za, if_pos rfl] at e; cases e
    | false =>
      rw [za, if_neg (by decide)] at e
      obtain ⟨w, z4, e⟩ := bdP_inv e
      rw [← Sum.inr.inj e]
      have x1 := pA_s z3
      rw [x1] at z4
      have x2 := pA_s z4
      have z8 := pBeg_8 z1
      refine ⟨?_, ?_, Or.inr ?_⟩
      · show q.2.2.2 < nx y n w.2
        rw [x2]; omega
      · show nx y n w.2 ≤ n
        rw [x2]; omega
      · show upN q.2.2.1 4 (q.2.2.1 4 + 1) 8 ≠ 0
        rw [upN_ne (by omega)]; exact z8
  · unfold pFst at e
    obtain ⟨_, z1, e⟩ := bdP_inv e
    obtain ⟨p, z2, e⟩ := bdP_inv e
    obtain ⟨d, z3, e⟩ := bdP_inv e
    cases za : anyR2 q.1 35 (nI p) (nI d.1) (q.2.2.1 5) with
    | true => rw [za, if_pos rfl] at e; cases e
    | false =>
      rw [za, if_neg (by decide)] at e
      rw [← Sum.inr.inj e]
      have x1 := pA_s z3
      have z8 := pBeg_8 z1
      refine ⟨?_, ?_, Or.inr ?_⟩
      · show q.2.2.2 < nx y n d.2
        rw [x1]; omega
      · show nx y n d.2 ≤ n
        rw [x1]; omega
      · show upN q.2.2.1 5 (q.2.2.1 5 + 1) 8 ≠ 0
        rw [upN_ne (by omega)]; exact z8
  · unfold pUns at e
    obtain ⟨_, z1, e⟩ := bdP_inv e
    obtain ⟨p, z2, e⟩ := bdP_inv e
    cases za : anyR q.1 51 (nI p) (q.2.2.1 6) with
    | true => rw [za, if_pos rfl] at e; cases e
    | false =>
      rw [za, if_neg (by decide)] at e
      obtain ⟨w, z4, e⟩ := bdP_inv e
      rw [← Sum.inr.inj e]
      have z8 := pBeg_8 z1
      refine ⟨?_, ?_, Or.inr ?_⟩
      · show q.2.2.2 < nx y n (nx y n (nx y n q.2.2.2))
        omega
      · show nx y n (nx y n (nx y n q.2.2.2)) ≤ n
        omega
      · show upN q.2.2.1 6 (q.2.2.1 6 + 1) 8 ≠ 0
        rw [upN_ne (by omega)]; exact z8
  · unfold pHrd at e
    obtain ⟨_, z1, e⟩ := bdP_inv e
    obtain ⟨p, z2, e⟩ := bdP_inv e
    obtain ⟨d, z3, e⟩ := bdP_inv e
    cases za : anyR q.1 60 (nI d.1) (q.2.2.1 7) with
    | true => rw [za, if_pos rfl] at e; cases e
    | false =>
      rw [za, if_neg (by decide)] at e
      rw [← Sum.inr.inj e]
      have x1 := pA_s z3
      have z8 := pBeg_8 z1
      refine ⟨?_, ?_, Or.inr ?_⟩
      · show q.2.2.2 < nx y n d.2
        rw [x1]; omega
      · show nx y n d.2 ≤ n
        rw [x1]; omega
      · show upN q.2.2.1 7 (q.2.2.1 7 + 1) 8 ≠ 0
        rw [upN_ne (by omega)]; exact z8
section RME
variable {J : MeJ} {T : Nat → Nat} {y : Nat → Nat} {n : Nat}
def okM (S : Mem) (y : Nat → Nat) (n : Nat) (q : PSt) : Prop := stM S y n q ∧ pIv q.1 q.2.1 q.2.2.1 ∧ (q.2.2.1 3 = 0 ∨ q.2.2.1 8 ≠ 0)
set_option maxRecDepth 100000 in
set_option maxHeartbeats 400000 in
theorem c_looF {S : Mem} (h : S 167 13 = nI 1) {g : Nat} : lX11_table_98 (g + 1) 167 (hp S J T) = fX11_table_148 167 (hp S J T) := by
  unfold lX11_table_98 fX11_table_98
  rw [mo_g13, Option.bind_some, h, if_neg (show ¬ nI 1 = 0 by decide)]
  unfold fX11_table_125
  rw [mo_g13, Option.bind_some, h, if_neg (show ¬ nI 1 = 0 by decide)]
set_option maxRecDepth 100000 in
set_option maxHeartbeats 400000 in
theorem c_looM : ∀ f g (S : Mem) (q : PSt), okM S y n q → n < f + q.2.2.2 → f < g → ∃ S', lX11_table_98 g 167 (hp S J T) = fX11_table_148 167 (hp S' J T) ∧ outM S' (pLoo y n f q) (fun q' => okM S' y n q') ∧ frO S S' := by
  intro f
  induction f with
  | zero =>
    intro g S q h hn hg
    have := h.1.1.2.1
    omega
  | succ f ih =>
    intro g S q h hn hg
    obtain ⟨g, rfl⟩ : ∃ z, g = z + 1 := ⟨g - 1, by omega⟩
    obtain ⟨⟨h1, h2, h3⟩, hi, hb⟩ := id h
    have hK := tkK_le y n q.2.2.2
    conv => enter [1, S', 1, 1]; unfold lX11_table_98
    unfold fX11_table_98
    rw [mo_g13, Option.bind_some, h1.2.2.2.1, if_pos (show nI 0 = 0 from rfl)]
    unfold fX11_table_105 pLoo
    rw [mo_g6, Option.bind_some, h1.2.2.2.2.2.2.1, kB_59]
    by_cases z4 : tkK y n q.2.2.2 = 4
    · rw [z4, if_pos (show nI (mkT 4) = nI 59 from rfl), if_neg (show ¬ 4 = 0 by omega), if_pos rfl]
      obtain ⟨S1, a1, a2, a3⟩ := s_nextM (J := J) (T := T) h1 (by omega)
      have h1' : okM S1 y n (q.1, q.2.1, q.2.2.1, nx y n q.2.2.2) := ⟨⟨a2, rwM_N h2 (frM_N a3), wrM_cg h3 (a3.1 171 (by omega) (by omega))⟩, hi, hb⟩
      obtain ⟨S2, b1, b2, b3⟩ := c_linM (J := J) (T := T) h1'.1 h1'.2.1
      have e1 : fX11_table_114 (lX11_table_98 g) 167 (hp S J T) = lX11_table_98 g 167 (hp S2 J T) := by
        unfold fX11_table_114 fX11_table_115
        rw [mo_isO, Option.bind_some, a1, Option.bind_some]
        unfold fX11_table_118 fX11_table_119
        rw [mo_isO, Option.bind_some, b1, Option.bind_some]
        rfl
      rw [e1]
      have f2 : frO S S2 := frO_tr (frM_O a3) b3
      cases hl : pLin y n (q.1, q.2.1, q.2.2.1, nx y n q.2.2.2) with
      | inl e =>
        rw [hl] at b2
        have b2' : fTM S2 e := b2
        obtain ⟨g, rfl⟩ : ∃ z, g = z + 1 := ⟨g - 1, by omega⟩
        exact ⟨S2, c_looF b2'.1, b2', f2⟩
      | inr q' =>
        rw [hl] at b2
        have b2' : stM S2 y n q' := b2
        have hs := nx_b (y := y) h1.2.1
        obtain ⟨p1, p2, p3⟩ := pLin_on (q := (q.1, q.2.1, q.2.2.1, nx y n q.2.2.2)) hs.2 hl hb
        have p1' : nx y n q.2.2.2 < q'.2.2.2 := p1
        obtain ⟨S3, d1, d2, d3⟩ := ih g S2 q' ⟨b2', pIv_lin (q := (q.1, q.2.1, q.2.2.1, nx y n q.2.2.2)) hi hl, p3⟩ (by omega) (by omega)
        exact ⟨S3, d1, d2, frO_tr f2 d3⟩
    · have hm : ¬ nI (mkT (tkK y n q.2.2.2)) = nI 59 := by
        unfold mkT
        rw [if_neg z4, eq_eq (by omega) (by omega)]
        omega
      rw [if_neg hm]
      unfold fX11_table_125
      rw [mo_g13, Option.bind_some, h1.2.2.2.1, if_pos (show nI 0 = 0 from rfl)]
      unfold fX11_table_132
      rw [mo_g6, Option.bind_some, h1.2.2.2.2.2.2.1]
      by_cases z0 : tkK y n q.2.2.2 = 0
      · rw [z0, if_pos (show nI (mkT 0) = 0 from rfl), if_pos rfl]
        exact ⟨S, rfl, h, frO_rf S⟩
      · have hm0 : ¬ nI (mkT (tkK y n q.2.2.2)) = 0 := by
          unfold mkT
          rw [if_neg z4]
          exact nzI (by omega) z0
        rw [if_neg hm0, if_neg z0, if_neg z4]
        obtain ⟨S4, g1, g2, g3⟩ := c_wrg (J := J) (T := T) h1.2.2.2.1 1 q.2.2.2
        refine ⟨S4, ?_, g2, frM_O g3⟩
        unfold fX11_table_139 fX11_table_145
        rw [mo_g4, Option.bind_some, h1.2.2.2.2.1, mo_isO, Option.bind_some, kI_1, g1, Option.bind_some]
-- is there a name from 0; the end
set_option maxRecDepth 100000 in
set_option maxHeartbeats 400000 in
theorem c_fr0 {S : Mem} {K : Nat} (hK : S 171 4 = nI K) (hb : K ≤ 8) : ∀ m k g, k + m = K → m < g → lX11_table_152 g 167 (bI (anyR (S 171) 19 (nI 0) k)) (nI k) (hp S J T) = fX11_table_192 167 (bI (anyR (S 171) 19 (nI 0) K)) (hp S J T) := by
  intro m
  induction m with
  | zero =>
    intro k g hk hg
    obtain ⟨g, rfl⟩ : ∃ z, g = z + 1 := ⟨g - 1, by omega⟩
    obtain rfl : k = K := by omega
    unfold lX11_table_152 fX11_table_152
    rw [mo_f16, Option.bind_some, kI_4, mo_r16 (by omega), Option.bind_some, hK, if_neg (nltn (Nat.lt_irrefl _) (by omega) (by omega))]
  | succ m ih =>
    intro k g hk hg
    obtain ⟨g, rfl⟩ : ∃ z, g = z + 1 := ⟨g - 1, by omega⟩
    have eA : anyR (S 171) 19 (nI 0) (k + 1) = (anyR (S 171) 19 (nI 0) k || decide (S 171 (19 + 2 * k) = nI 0)) := rfl
    rw [← ih (k + 1) g (by omega) (by omega), eA]
    conv => lhs; unfold lX11_table_152
    unfold fX11_table_152
    rw [mo_f16, Option.bind_some, kI_4, mo_r16 (by omega), Option.bind_some, hK, if_pos (ltn (show k < K by omega) (by omega))]
    have e180 : fX11_table_180 (lX11_table_152 g) 167 (nI k) (hp S J T) = lX11_table_152 g 167 (bI true) (nI (k + 1)) (hp S J T) := by
      unfold fX11_table_180 fX11_table_185
      rw [kI_1, nI_add, bI_t]
    unfold fX11_table_162
    cases za : anyR (S 171) 19 (nI 0) k with
    | true => rw [if_neg (show ¬ bI true = 0 by decide), e180, Bool.true_or]
    | false =>
      rw [if_pos (show bI false = 0 by decide), Bool.false_or]
      unfold fX11_table_166
      rw [mo_f16, Option.bind_some, kB_19, kI_2, ix2, mo_r16 (by omega), Option.bind_some]
      by_cases zx : S 171 (19 + 2 * k) = nI 0
      · rw [if_pos (show S 171 (19 + 2 * k) = 0 from zx), decide_eq_true zx, e180]
      · rw [if_neg (show ¬ S 171 (19 + 2 * k) = 0 from zx), decide_eq_false zx]
        unfold fX11_table_184 fX11_table_185
        rw [kI_0, kI_1, nI_add, bI_f]
set_option maxRecDepth 100000 in
set_option maxHeartbeats 400000 in
theorem c_148 {S : Mem} {K : Nat} (hK : S 171 4 = nI K) (hb : K ≤ 8) : fX11_table_148 167 (hp S J T) = fX11_table_192 167 (bI (anyR (S 171) 19 (nI 0) K)) (hp S J T) := by
  unfold fX11_table_148
  have := c_fr0 (J := J) (T := T) hK hb K 0 FU (by omega) (FU_lt (by omega))
  rw [show anyR (S 171) 19 (nI 0) 0 = false from rfl, bI_f] at this
  rw [kI_0]
  exact this
set_option maxRecDepth 100000 in
set_option maxHeartbeats 400000 in
theorem c_endF {S : Mem} {K : Nat} (hK : S 171 4 = nI K) (hb : K ≤ 8) (h : S 167 13 = nI 1) : fX11_table_148 167 (hp S J T) = fX11_table_239 167 (hp S J T) := by
  rw [c_148 hK hb]
  unfold fX11_table_192
  rw [mo_g13, Option.bind_some, h, if_neg (show ¬ nI 1 = 0 by decide)]
  unfold fX11_table_232
  rw [mo_g13, Option.bind_some, h, if_neg (show ¬ nI 1 = 0 by decide)]
def endM (S S' : Mem) (J : MeJ) (T : Nat → Nat) (x : PR PSt) (ok : PSt → Prop) : Prop := match x with
  | .inl e => fX11_table_148 167 (hp S J T) = fX11_table_239 167 (hp S' J T) ∧ fTM S' e
  | .inr q => fX11_table_148 167 (hp S J T) = fX11_table_245 167 (hp S' J T) ∧ ok q
set_option maxRecDepth 100000 in
set_option maxHeartbeats 400000 in
theorem c_endM {S : Mem} {q : PSt} (h : okM S y n q) : ∃ S', endM S S' J T (pEnd q) (fun q => okM S' y n q) ∧ frO S S' := by
  obtain ⟨⟨h1, h2, h3⟩, hi, hb⟩ := id h
  obtain ⟨k3, k4, k5, k6, k7, k8⟩ := hi.1
  have hK := h2.1 4 (by omega)
  obtain ⟨S4, g1, g2, g3⟩ := c_wrg (J := J) (T := T) h1.2.2.2.1 6 q.2.2.2
  have e222 : fX11_table_222 167 (hp S J T) = fX11_table_239 167 (hp S4 J T) := by
    unfold fX11_table_222 fX11_table_229
    rw [mo_g4, Option.bind_some, h1.2.2.2.2.1, mo_isO, Option.bind_some, kB_6, g1, Option.bind_some]
    unfold fX11_table_232
    rw [mo_g13, Option.bind_some, g2.1, if_neg (show ¬ nI 1 = 0 by decide)]
  have hR : anyR (S 171) 19 (nI 0) (q.2.2.1 4) = anyR q.1 19 (nI 0) (q.2.2.1 4) := anyR_cg _ (fun i hi => (h2.2.2.1 i (by omega)).1)
  have e148 := c_148 (J := J) (T := T) hK k4
  have e192 : fX11_table_192 167 (bI (anyR (S 171) 19 (nI 0) (q.2.2.1 4))) (hp S J T) = fX11_table_199 167 (bI (anyR q.1 19 (nI 0) (q.2.2.1 4))) (hp S J T) := by
    unfold fX11_table_192
    rw [mo_g13, Option.bind_some, h1.2.2.2.1, if_pos (show nI 0 = 0 from rfl), hR]
  rw [e192] at e148
  unfold fX11_table_199 at e148
  rw [mo_f16, Option.bind_some, kB_8, mo_r16 (by omega), Option.bind_some, h2.1 8 (by omega)] at e148
  unfold pEnd
  by_cases z8 : q.2.2.1 8 = 0
  · rw [z8, if_pos (show nI 0 = 0 from rfl), e222] at e148
    rw [if_pos (Or.inl (by omega))]
    exact ⟨S4, ⟨e148, g2⟩, frM_O g3⟩
  · rw [if_neg (nzI (by omega) z8)] at e148
    unfold fX11_table_209 at e148
    rw [mo_f16, Option.bind_some, kI_3, mo_r16 (by omega), Option.bind_some, h2.1 3 (by omega)] at e148
    by_cases z3 : q.2.2.1 3 = 0
    · rw [z3, if_pos (show nI 0 = 0 from rfl), e222] at e148
      rw [if_pos (Or.inl z3)]
      exact ⟨S4, ⟨e148, g2⟩, frM_O g3⟩
    · rw [if_neg (nzI (by omega) z3)] at e148
      unfold fX11_table_218 at e148
      cases za : anyR q.1 19 (nI 0) (q.2.2.1 4) with
      | false =>
        rw [za, if_pos (show bI false = 0 by decide), e222] at e148
        rw [if_pos (Or.inr rfl)]
        exact ⟨S4, ⟨e148, g2⟩, frM_O g3⟩
      | true =>
        rw [za, if_neg (show ¬ bI true = 0 by decide)] at e148
        unfold fX11_table_232 at e148
        rw [mo_g13, Option.bind_some, h1.2.2.2.1, if_pos (show nI 0 = 0 from rfl)] at e148
        rw [if_neg (fun z => by rcases z with z | z; exact z3 z; cases z)]
        exact ⟨S, ⟨e148, h⟩, frO_rf S⟩
end RME

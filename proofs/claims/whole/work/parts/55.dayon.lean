-- A DAY OF THE REFERENCE
def qE (P : Nat) (R : Row) (H : Nat → Nat) : Row := fun j => if j < P then nI (H j) else R j
def aE (A : Row) (E : Nat → Nat) : Row := fun j => if j < 5 then nI (E j) else A j
set_option maxRecDepth 100000 in
set_option maxHeartbeats 4000000 in
theorem qE_lo {P : Nat} {R : Row} {H : Nat → Nat} {j : Nat} (h : j < P) : qE P R H j = nI (H j) := if_pos h
set_option maxRecDepth 100000 in
set_option maxHeartbeats 4000000 in
theorem qE_ge {P : Nat} {R : Row} {H : Nat → Nat} {j : Nat} (h : P ≤ j) : qE P R H j = R j := if_neg (by omega)
set_option maxRecDepth 100000 in
set_option maxHeartbeats 4000000 in
theorem qE_up {P : Nat} {R : Row} {H : Nat → Nat} {p x : Nat} (h : p < P) : up (qE P R H) p (nI x) = qE P R (upN H p x) := by
  funext j
  unfold up qE upN
  by_cases h1 : j = p
  · rw [if_pos h1, if_pos (by omega), if_pos h1]
  · rw [if_neg h1, if_neg h1]
set_option maxRecDepth 100000 in
set_option maxHeartbeats 4000000 in
theorem qE_12 {P : Nat} {R : Row} {H : Nat → Nat} {l : Nat} (h : P ≤ 12) : up (qE P R H) 12 (nI l) = pE P R H l := by
  funext j
  unfold up qE pE
  by_cases h1 : j = 12
  · rw [if_pos h1, if_neg (by omega), if_pos h1]
  · rw [if_neg h1, if_neg h1]
set_option maxRecDepth 100000 in
set_option maxHeartbeats 4000000 in
theorem qE_self {P : Nat} {R : Row} {H : Nat → Nat} (h1 : ∀ p, p < P → R p = nI (H p)) : qE P R H = R := by
  funext j
  unfold qE
  by_cases hj : j < P
  · rw [if_pos hj, h1 j hj]
  · rw [if_neg hj]
set_option maxRecDepth 100000 in
set_option maxHeartbeats 4000000 in
theorem aE_lo {A : Row} {E : Nat → Nat} {j : Nat} (h : j < 5) : aE A E j = nI (E j) := if_pos h
set_option maxRecDepth 100000 in
set_option maxHeartbeats 4000000 in
theorem aE_up {A : Row} {E : Nat → Nat} {p x : Nat} (h : p < 5) : up (aE A E) p (nI x) = aE A (upN E p x) := qE_up h
-- rounds: as the reference goes
set_option maxRecDepth 100000 in
set_option maxHeartbeats 4000000 in
theorem rnd_0 (w : Nat) : ∀ (F : List Nat) (s : Sv), s.2.1 = 0 → rnd w F s = s := by
  intro F
  induction F with
  | nil => intro s _; rfl
  | cons p F ih =>
    intro s h
    have e1 : sv1 w s p = s := if_pos (Or.inl h)
    show rnd w F (sv1 w s p) = s
    rw [e1]
    exact ih s h
set_option maxRecDepth 100000 in
set_option maxHeartbeats 4000000 in
theorem rnd_g (w : Nat) : ∀ (F : List Nat) (s : Sv), s.2.2.2 = true → (rnd w F s).2.2.2 = true := by
  intro F
  induction F with
  | nil => intro s h; exact h
  | cons p F ih =>
    intro s h
    refine ih (sv1 w s p) ?_
    unfold sv1
    split
    · exact h
    · rfl
set_option maxRecDepth 100000 in
set_option maxHeartbeats 4000000 in
theorem rnd_dec (w : Nat) : ∀ (F : List Nat) (s : Sv), s.2.2.2 = false → (rnd w F s).2.2.2 = true → (rnd w F s).2.1 < s.2.1 := by
  intro F
  induction F with
  | nil => intro s h h2; rw [show rnd w [] s = s from rfl, h] at h2; cases h2
  | cons p F ih =>
    intro s h h2
    have e : rnd w (p :: F) s = rnd w F (sv1 w s p) := rfl
    rw [e] at h2 ⊢
    by_cases h0 : s.2.1 = 0 ∨ s.1 p = 0
    · have e1 : sv1 w s p = s := if_pos h0
      rw [e1] at h2 ⊢
      exact ih s h h2
    · have e1 : sv1 w s p = (upN s.1 p (s.1 p - w), s.2.1 - 1, upN s.2.2.1 p (s.2.2.1 p + 1), true) := if_neg h0
      have h3 := (rnd_le w F (sv1 w s p)).2
      rw [e1] at h3 ⊢
      dsimp only at h3
      omega
set_option maxRecDepth 100000 in
set_option maxHeartbeats 4000000 in
theorem srv_f (w : Nat) (F : List Nat) : ∀ (n : Nat) (s : Sv), s.2.2.2 = false → srv w F n s = s := by
  intro n s h
  cases n with
  | zero => rfl
  | succ n => unfold srv; rw [h]; rfl
section EATM
variable {S : Mem} {J : MeJ} {T : Nat → Nat} {w : Nat}
set_option maxRecDepth 100000 in
set_option maxHeartbeats 4000000 in
theorem l_eatIn (hw : rwA w) (hne : w ≠ 179) {p n : Nat} (hp5 : p < 5) {e l : Int32} (k6 : Nat → Nat → Int32 → Int32 → Int32 → Int32 → aH → Option aH) : ∀ (X : List Nat) (O : Row) (f : Nat), X.length < f → X.length < 5 → (∀ x ∈ X, x < 5) → ordA 0 O X → lX11_eatOn_43 k6 f 167 w e l (nI n) (nI p) (nI X.length) (hp (stR S 179 O) J T) = k6 167 w e l (nI (n + 1)) (nI (p + 1)) (hp (stR S 179 (insO (S w) 0 p O X)) J T) := by
  intro X
  induction X with
  | nil =>
    intro O f hf hl hx ho
    obtain ⟨f, rfl⟩ : ∃ g, f = g + 1 := ⟨f - 1, by omega⟩
    unfold lX11_eatOn_43 insO
    simp (disch := omega) only [gX11_eatOn, fX11_eatOn_0, fX11_eatOn_6, fX11_eatOn_17, fX11_eatOn_21, fX11_eatOn_24, fX11_eatOn_27, fX11_eatOn_30, fX11_eatOn_33, fX11_eatOn_36, fX11_eatOn_39, fX11_eatOn_43, fX11_eatOn_48, fX11_eatOn_66, fX11_eatOn_88, fX11_eatOn_100, fX11_eatOn_106, fX11_eatOn_112, fX11_eatOn_117, fX11_eatOn_122, fX11_eatOn_128, fX11_eatOn_135, fX11_eatOn_140, fX11_eatOn_156, fX11_eatOn_159, fX11_eatOn_182, fX11_eatOn_192, fX11_eatOn_193, fX11_eatOn_211, fX11_eatOn_217, fX11_eatOn_220, kI_0, mo_f15, mo_r15, mo_w15, kI_3, mo_isO, mo_f28, mo_r28, mo_w28, kI_1, kI_n, kB_14, mo_g26, mo_f27, mo_r27, mo_w27, kB_12, Option.bind_some, n35, n9, n19, n51, n59, nI_add, ix2, ix8, ix22, ix5, ↓reduceIte, List.length_nil, pos_eq, Nat.lt_irrefl, stS_R, stR_stR, stR_eq, Nat.add_zero]
  | cons x xs ih =>
    intro O f hf hl hx ho
    obtain ⟨f, rfl⟩ : ∃ g, f = g + 1 := ⟨f - 1, by omega⟩
    have hx5 := hx x List.mem_cons_self
    have ho1 := ho.1
    rw [Nat.zero_add] at ho1
    rw [List.length_cons] at hf hl
    unfold lX11_eatOn_43 insO
    by_cases hc : S w x < S w p
    · rw [if_pos hc, List.length_cons]
      simp (disch := omega) only [gX11_eatOn, fX11_eatOn_0, fX11_eatOn_6, fX11_eatOn_17, fX11_eatOn_21, fX11_eatOn_24, fX11_eatOn_27, fX11_eatOn_30, fX11_eatOn_33, fX11_eatOn_36, fX11_eatOn_39, fX11_eatOn_43, fX11_eatOn_48, fX11_eatOn_66, fX11_eatOn_88, fX11_eatOn_100, fX11_eatOn_106, fX11_eatOn_112, fX11_eatOn_117, fX11_eatOn_122, fX11_eatOn_128, fX11_eatOn_135, fX11_eatOn_140, fX11_eatOn_156, fX11_eatOn_159, fX11_eatOn_182, fX11_eatOn_192, fX11_eatOn_193, fX11_eatOn_211, fX11_eatOn_217, fX11_eatOn_220, kI_0, mo_f15, mo_r15, mo_w15, kI_3, mo_isO, mo_f28, mo_r28, mo_w28, kI_1, kI_n, kB_14, mo_g26, mo_f27, mo_r27, mo_w27, kB_12, Option.bind_some, n35, n9, n19, n51, n59, nI_add, ix2, ix8, ix22, ix5, ↓reduceIte, pos_eq, Nat.succ_pos, sb1, pm1, stR_eq, stR_ne hne, ho1, hc, stS_R, stR_stR, rw_r hw, Nat.zero_add]
      exact ih _ f (by omega) (by omega) (fun y hy => hx y (List.mem_cons_of_mem _ hy)) (ordA_cg (fun i hi => up_ne (by omega)) ho.2)
    · rw [if_neg hc, List.length_cons]
      simp (disch := omega) only [gX11_eatOn, fX11_eatOn_0, fX11_eatOn_6, fX11_eatOn_17, fX11_eatOn_21, fX11_eatOn_24, fX11_eatOn_27, fX11_eatOn_30, fX11_eatOn_33, fX11_eatOn_36, fX11_eatOn_39, fX11_eatOn_43, fX11_eatOn_48, fX11_eatOn_66, fX11_eatOn_88, fX11_eatOn_100, fX11_eatOn_106, fX11_eatOn_112, fX11_eatOn_117, fX11_eatOn_122, fX11_eatOn_128, fX11_eatOn_135, fX11_eatOn_140, fX11_eatOn_156, fX11_eatOn_159, fX11_eatOn_182, fX11_eatOn_192, fX11_eatOn_193, fX11_eatOn_211, fX11_eatOn_217, fX11_eatOn_220, kI_0, mo_f15, mo_r15, mo_w15, kI_3, mo_isO, mo_f28, mo_r28, mo_w28, kI_1, kI_n, kB_14, mo_g26, mo_f27, mo_r27, mo_w27, kB_12, Option.bind_some, n35, n9, n19, n51, n59, nI_add, ix2, ix8, ix22, ix5, ↓reduceIte, pos_eq, Nat.succ_pos, sb1, pm1, stR_eq, stR_ne hne, ho1, hc, stS_R, stR_stR, rw_r hw, Nat.zero_add]
set_option maxRecDepth 100000 in
set_option maxHeartbeats 4000000 in
theorem l_eatR (hw : rwA w) (h8 : w ≠ 178) (h9 : w ≠ 179) (h7 : w ≠ 167) {P v d : Nat} (hP5 : P ≤ 5) (hv : v < 5000) {A R : Row} (hd : S 167 26 = nI d) (hd8 : d < 8) (hR : R (14 + d) = nI v) {F : List Nat} (hF : ∀ p ∈ F, p < P) (hO : ∀ i p, F[i]? = some p → S 179 i = nI p) (hl5 : F.length ≤ 5) (k112 : Nat → Nat → Int32 → Int32 → Int32 → aH → Option aH) : ∀ (G : List Nat) (i f : Nat) (s : Sv), F.drop i = G → G.length < f → i + G.length = F.length → (∀ p, p < P → s.1 p < 5000) → s.2.1 < 5000 → lX11_eatOn_128 k112 f 167 w (nI F.length) (nI s.2.1) (bI s.2.2.2) (nI i) (hp (stR (stR S w (qE P R s.1)) 178 (aE A s.2.2.1)) J T) = k112 167 w (nI F.length) (nI (rnd v G s).2.1) (bI (rnd v G s).2.2.2) (hp (stR (stR S w (qE P R (rnd v G s).1)) 178 (aE A (rnd v G s).2.2.1)) J T) := by
  intro G
  induction G with
  | nil =>
    intro i f s hdr hf hi hs hl
    obtain ⟨f, rfl⟩ : ∃ g, f = g + 1 := ⟨f - 1, by omega⟩
    rw [List.length_nil, Nat.add_zero] at hi
    unfold lX11_eatOn_128
    simp (disch := omega) only [gX11_eatOn, fX11_eatOn_0, fX11_eatOn_6, fX11_eatOn_17, fX11_eatOn_21, fX11_eatOn_24, fX11_eatOn_27, fX11_eatOn_30, fX11_eatOn_33, fX11_eatOn_36, fX11_eatOn_39, fX11_eatOn_43, fX11_eatOn_48, fX11_eatOn_66, fX11_eatOn_88, fX11_eatOn_100, fX11_eatOn_106, fX11_eatOn_112, fX11_eatOn_117, fX11_eatOn_122, fX11_eatOn_128, fX11_eatOn_135, fX11_eatOn_140, fX11_eatOn_156, fX11_eatOn_159, fX11_eatOn_182, fX11_eatOn_192, fX11_eatOn_193, fX11_eatOn_211, fX11_eatOn_217, fX11_eatOn_220, kI_0, mo_f15, mo_r15, mo_w15, kI_3, mo_isO, mo_f28, mo_r28, mo_w28, kI_1, kI_n, kB_14, mo_g26, mo_f27, mo_r27, mo_w27, kB_12, Option.bind_some, n35, n9, n19, n51, n59, nI_add, ix2, ix8, ix22, ix5, ↓reduceIte, lt_eq, hi, Nat.lt_irrefl]
    rfl
  | cons p G ih =>
    intro i f s hdr hf hi hs hl
    obtain ⟨f, rfl⟩ : ∃ g, f = g + 1 := ⟨f - 1, by omega⟩
    rw [List.length_cons] at hi hf
    have hip : F[i]? = some p := by
      have := congrArg (fun l => l[0]?) hdr
      simpa using this
    have hpP : p < P := hF p (List.mem_of_getElem? hip)
    have hoi := hO i p hip
    have hd' : F.drop (i + 1) = G := by
      have := congrArg List.tail hdr
      simpa using this
    have hsp := hs p hpP
    unfold lX11_eatOn_128
    show _ = k112 167 w _ (nI (rnd v G (sv1 v s p)).2.1) (bI (rnd v G (sv1 v s p)).2.2.2) (hp (stR (stR S w (qE P R (rnd v G (sv1 v s p)).1)) 178 (aE A (rnd v G (sv1 v s p)).2.2.1)) J T)
    by_cases h0 : s.2.1 = 0
    · have e1 : sv1 v s p = s := if_pos (Or.inl h0)
      rw [e1, rnd_0 v G s h0]
      simp (disch := omega) only [gX11_eatOn, fX11_eatOn_0, fX11_eatOn_6, fX11_eatOn_17, fX11_eatOn_21, fX11_eatOn_24, fX11_eatOn_27, fX11_eatOn_30, fX11_eatOn_33, fX11_eatOn_36, fX11_eatOn_39, fX11_eatOn_43, fX11_eatOn_48, fX11_eatOn_66, fX11_eatOn_88, fX11_eatOn_100, fX11_eatOn_106, fX11_eatOn_112, fX11_eatOn_117, fX11_eatOn_122, fX11_eatOn_128, fX11_eatOn_135, fX11_eatOn_140, fX11_eatOn_156, fX11_eatOn_159, fX11_eatOn_182, fX11_eatOn_192, fX11_eatOn_193, fX11_eatOn_211, fX11_eatOn_217, fX11_eatOn_220, kI_0, mo_f15, mo_r15, mo_w15, kI_3, mo_isO, mo_f28, mo_r28, mo_w28, kI_1, kI_n, kB_14, mo_g26, mo_f27, mo_r27, mo_w27, kB_12, Option.bind_some, n35, n9, n19, n51, n59, nI_add, ix2, ix8, ix22, ix5, ↓reduceIte, lt_eq, show i < F.length by omega, pos_eq, h0, Nat.lt_irrefl]
    · by_cases h1 : s.1 p = 0
      · have e1 : sv1 v s p = s := if_pos (Or.inr h1)
        rw [e1]
        simp (disch := omega) only [gX11_eatOn, fX11_eatOn_0, fX11_eatOn_6, fX11_eatOn_17, fX11_eatOn_21, fX11_eatOn_24, fX11_eatOn_27, fX11_eatOn_30, fX11_eatOn_33, fX11_eatOn_36, fX11_eatOn_39, fX11_eatOn_43, fX11_eatOn_48, fX11_eatOn_66, fX11_eatOn_88, fX11_eatOn_100, fX11_eatOn_106, fX11_eatOn_112, fX11_eatOn_117, fX11_eatOn_122, fX11_eatOn_128, fX11_eatOn_135, fX11_eatOn_140, fX11_eatOn_156, fX11_eatOn_159, fX11_eatOn_182, fX11_eatOn_192, fX11_eatOn_193, fX11_eatOn_211, fX11_eatOn_217, fX11_eatOn_220, kI_0, mo_f15, mo_r15, mo_w15, kI_3, mo_isO, mo_f28, mo_r28, mo_w28, kI_1, kI_n, kB_14, mo_g26, mo_f27, mo_r27, mo_w27, kB_12, Option.bind_some, n35, n9, n19, n51, n59, nI_add, ix2, ix8, ix22, ix5, ↓reduceIte, lt_eq, show i < F.length by omega, pos_eq, show 0 < s.2.1 by omega, stR_ne (show 179 ≠ 178 by omega), stR_ne h9.symm, hoi, rw_r hw, stR_ne h8, stR_eq, qE_lo, h1, eq0]
        exact ih (i + 1) f s hd' (by omega) (by omega) hs hl
      · have e1 : sv1 v s p = (upN s.1 p (s.1 p - v), s.2.1 - 1, upN s.2.2.1 p (s.2.2.1 p + 1), true) := if_neg (fun z => z.elim h0 h1)
        have hst : ∀ x : Int32, x = nI (s.1 p - v) → stS (stR (stR S w (qE P R s.1)) 178 (aE A s.2.2.1)) w p x = stR (stR S w (qE P R (upN s.1 p (s.1 p - v)))) 178 (aE A s.2.2.1) := by
          intro x hx
          rw [hx, stS_R, stR_sw h8, stR_ne h8, stR_eq, qE_up hpP]
        obtain ⟨l, hl'⟩ : ∃ l, s.2.1 = l + 1 := ⟨s.2.1 - 1, by omega⟩
        have hgo := ih (i + 1) f (upN s.1 p (s.1 p - v), s.2.1 - 1, upN s.2.2.1 p (s.2.2.1 p + 1), true) hd' (by omega) (by omega) (fun q hq => by
          show upN s.1 p (s.1 p - v) q < 5000
          unfold upN
          split
          · omega
          · exact hs q hq) (by dsimp only; omega)
        rw [e1]
        rw [← hgo]
        rw [hl', Nat.add_sub_cancel]
        by_cases h2 : v < s.1 p
        · simp (disch := omega) only [gX11_eatOn, fX11_eatOn_0, fX11_eatOn_6, fX11_eatOn_17, fX11_eatOn_21, fX11_eatOn_24, fX11_eatOn_27, fX11_eatOn_30, fX11_eatOn_33, fX11_eatOn_36, fX11_eatOn_39, fX11_eatOn_43, fX11_eatOn_48, fX11_eatOn_66, fX11_eatOn_88, fX11_eatOn_100, fX11_eatOn_106, fX11_eatOn_112, fX11_eatOn_117, fX11_eatOn_122, fX11_eatOn_128, fX11_eatOn_135, fX11_eatOn_140, fX11_eatOn_156, fX11_eatOn_159, fX11_eatOn_182, fX11_eatOn_192, fX11_eatOn_193, fX11_eatOn_211, fX11_eatOn_217, fX11_eatOn_220, kI_0, mo_f15, mo_r15, mo_w15, kI_3, mo_isO, mo_f28, mo_r28, mo_w28, kI_1, kI_n, kB_14, mo_g26, mo_f27, mo_r27, mo_w27, kB_12, Option.bind_some, n35, n9, n19, n51, n59, nI_add, ix2, ix8, ix22, ix5, ↓reduceIte, lt_eq, show i < F.length by omega, pos_eq, Nat.succ_pos, stR_ne (show 179 ≠ 178 by omega), stR_ne (show 167 ≠ 178 by omega), stR_ne h7.symm, stR_ne h9.symm, hoi, rw_r hw, rw_w hw, stR_ne h8, stR_eq, qE_lo, qE_ge, h1, eq0, hd, hR, h2, nsub, stS_R, stR_sw h8, qE_up, stR_stR, aE_lo, aE_up, pm1]
          rfl
        · simp (disch := omega) only [gX11_eatOn, fX11_eatOn_0, fX11_eatOn_6, fX11_eatOn_17, fX11_eatOn_21, fX11_eatOn_24, fX11_eatOn_27, fX11_eatOn_30, fX11_eatOn_33, fX11_eatOn_36, fX11_eatOn_39, fX11_eatOn_43, fX11_eatOn_48, fX11_eatOn_66, fX11_eatOn_88, fX11_eatOn_100, fX11_eatOn_106, fX11_eatOn_112, fX11_eatOn_117, fX11_eatOn_122, fX11_eatOn_128, fX11_eatOn_135, fX11_eatOn_140, fX11_eatOn_156, fX11_eatOn_159, fX11_eatOn_182, fX11_eatOn_192, fX11_eatOn_193, fX11_eatOn_211, fX11_eatOn_217, fX11_eatOn_220, kI_0, mo_f15, mo_r15, mo_w15, kI_3, mo_isO, mo_f28, mo_r28, mo_w28, kI_1, kI_n, kB_14, mo_g26, mo_f27, mo_r27, mo_w27, kB_12, Option.bind_some, n35, n9, n19, n51, n59, nI_add, ix2, ix8, ix22, ix5, ↓reduceIte, lt_eq, show i < F.length by omega, pos_eq, Nat.succ_pos, stR_ne (show 179 ≠ 178 by omega), stR_ne (show 167 ≠ 178 by omega), stR_ne h7.symm, stR_ne h9.symm, hoi, rw_r hw, rw_w hw, stR_ne h8, stR_eq, qE_lo, qE_ge, h1, eq0, hd, hR, h2, hst (nI 0) (by rw [show s.1 p - v = 0 by omega]), stS_R, stR_stR, aE_lo, aE_up, pm1]
          rfl
set_option maxRecDepth 100000 in
set_option maxHeartbeats 4000000 in
theorem l_eatW (hw : rwA w) (h8 : w ≠ 178) (h9 : w ≠ 179) (h7 : w ≠ 167) {P v d : Nat} (hP5 : P ≤ 5) (hv : v < 5000) {A R : Row} (hd : S 167 26 = nI d) (hd8 : d < 8) (hR : R (14 + d) = nI v) {F : List Nat} (hF : ∀ p ∈ F, p < P) (hO : ∀ i p, F[i]? = some p → S 179 i = nI p) (hl5 : F.length ≤ 5) : ∀ (n f : Nat) (s : Sv), s.2.1 < n → n < f → (∀ p, p < P → s.1 p < 5000) → s.2.1 < 5000 → lX11_eatOn_112 f 167 w (nI F.length) (nI s.2.1) (bI s.2.2.2) (hp (stR (stR S w (qE P R s.1)) 178 (aE A s.2.2.1)) J T) = some (hp (stR (stR S w (pE P R (srv v F n s).1 (srv v F n s).2.1)) 178 (aE A (srv v F n s).2.2.1)) J T) := by
  intro n
  induction n with
  | zero => intro f s h; omega
  | succ n ih =>
    intro f s hn hf hs hl
    obtain ⟨f, rfl⟩ : ∃ g, f = g + 1 := ⟨f - 1, by omega⟩
    unfold lX11_eatOn_112
    by_cases h0 : s.2.1 = 0
    · have e : srv v F (n + 1) s = (s.1, s.2.1, s.2.2.1, (srv v F (n + 1) s).2.2.2) := by
        unfold srv
        split
        · rw [rnd_0 v F (s.1, s.2.1, s.2.2.1, false) h0, srv_f v F n _ rfl]
        · rfl
      rw [e]
      simp (disch := omega) only [gX11_eatOn, fX11_eatOn_0, fX11_eatOn_6, fX11_eatOn_17, fX11_eatOn_21, fX11_eatOn_24, fX11_eatOn_27, fX11_eatOn_30, fX11_eatOn_33, fX11_eatOn_36, fX11_eatOn_39, fX11_eatOn_43, fX11_eatOn_48, fX11_eatOn_66, fX11_eatOn_88, fX11_eatOn_100, fX11_eatOn_106, fX11_eatOn_112, fX11_eatOn_117, fX11_eatOn_122, fX11_eatOn_128, fX11_eatOn_135, fX11_eatOn_140, fX11_eatOn_156, fX11_eatOn_159, fX11_eatOn_182, fX11_eatOn_192, fX11_eatOn_193, fX11_eatOn_211, fX11_eatOn_217, fX11_eatOn_220, kI_0, mo_f15, mo_r15, mo_w15, kI_3, mo_isO, mo_f28, mo_r28, mo_w28, kI_1, kI_n, kB_14, mo_g26, mo_f27, mo_r27, mo_w27, kB_12, Option.bind_some, n35, n9, n19, n51, n59, nI_add, ix2, ix8, ix22, ix5, ↓reduceIte, pos_eq, h0, Nat.lt_irrefl, rw_w hw, stS_R, stR_sw h8, stR_ne h8, stR_eq, qE_12]
    · unfold srv
      cases hg : s.2.2.2 with
      | false => simp (disch := omega) only [gX11_eatOn, fX11_eatOn_0, fX11_eatOn_6, fX11_eatOn_17, fX11_eatOn_21, fX11_eatOn_24, fX11_eatOn_27, fX11_eatOn_30, fX11_eatOn_33, fX11_eatOn_36, fX11_eatOn_39, fX11_eatOn_43, fX11_eatOn_48, fX11_eatOn_66, fX11_eatOn_88, fX11_eatOn_100, fX11_eatOn_106, fX11_eatOn_112, fX11_eatOn_117, fX11_eatOn_122, fX11_eatOn_128, fX11_eatOn_135, fX11_eatOn_140, fX11_eatOn_156, fX11_eatOn_159, fX11_eatOn_182, fX11_eatOn_192, fX11_eatOn_193, fX11_eatOn_211, fX11_eatOn_217, fX11_eatOn_220, kI_0, mo_f15, mo_r15, mo_w15, kI_3, mo_isO, mo_f28, mo_r28, mo_w28, kI_1, kI_n, kB_14, mo_g26, mo_f27, mo_r27, mo_w27, kB_12, Option.bind_some, n35, n9, n19, n51, n59, nI_add, ix2, ix8, ix22, ix5, ↓reduceIte, pos_eq, show 0 < s.2.1 by omega, bI_f, n0_0, rw_w hw, stS_R, stR_sw h8, stR_ne h8, stR_eq, qE_12, Bool.false_eq_true]
      | true =>
        simp (disch := omega) only [gX11_eatOn, fX11_eatOn_0, fX11_eatOn_6, fX11_eatOn_17, fX11_eatOn_21, fX11_eatOn_24, fX11_eatOn_27, fX11_eatOn_30, fX11_eatOn_33, fX11_eatOn_36, fX11_eatOn_39, fX11_eatOn_43, fX11_eatOn_48, fX11_eatOn_66, fX11_eatOn_88, fX11_eatOn_100, fX11_eatOn_106, fX11_eatOn_112, fX11_eatOn_117, fX11_eatOn_122, fX11_eatOn_128, fX11_eatOn_135, fX11_eatOn_140, fX11_eatOn_156, fX11_eatOn_159, fX11_eatOn_182, fX11_eatOn_192, fX11_eatOn_193, fX11_eatOn_211, fX11_eatOn_217, fX11_eatOn_220, kI_0, mo_f15, mo_r15, mo_w15, kI_3, mo_isO, mo_f28, mo_r28, mo_w28, kI_1, kI_n, kB_14, mo_g26, mo_f27, mo_r27, mo_w27, kB_12, Option.bind_some, n35, n9, n19, n51, n59, nI_add, ix2, ix8, ix22, ix5, ↓reduceIte, pos_eq, show 0 < s.2.1 by omega, bI_t, n1_0]
        have h1 := l_eatR (S := S) (J := J) (T := T) (A := A) (R := R) hw h8 h9 h7 hP5 hv hd hd8 hR hF hO hl5 (lX11_eatOn_112 f) F 0 FU (s.1, s.2.1, s.2.2.1, false) rfl (FU_lt (by omega)) (by omega) hs hl
        rw [bI_f] at h1
        dsimp only at h1
        rw [h1]
        have h2 := rnd_le v F (s.1, s.2.1, s.2.2.1, false)
        cases hg2 : (rnd v F (s.1, s.2.1, s.2.2.1, false)).2.2.2 with
        | true =>
          have h3 := rnd_dec v F (s.1, s.2.1, s.2.2.1, false) rfl hg2
          dsimp only at h3
          rw [← hg2]
          exact ih f _ (by omega) (by omega) (fun p hp => Nat.lt_of_le_of_lt (h2.1 p) (hs p hp)) (Nat.lt_of_le_of_lt h2.2 hl)
        | false =>
          rw [srv_f v F n _ hg2]
          obtain ⟨f, rfl⟩ : ∃ g, f = g + 1 := ⟨f - 1, by omega⟩
          have hle := h2.2
          dsimp only at hle
          unfold lX11_eatOn_112
          by_cases h4 : 0 < (rnd v F (s.1, s.2.1, s.2.2.1, false)).2.1
          · simp (disch := omega) only [gX11_eatOn, fX11_eatOn_0, fX11_eatOn_6, fX11_eatOn_17, fX11_eatOn_21, fX11_eatOn_24, fX11_eatOn_27, fX11_eatOn_30, fX11_eatOn_33, fX11_eatOn_36, fX11_eatOn_39, fX11_eatOn_43, fX11_eatOn_48, fX11_eatOn_66, fX11_eatOn_88, fX11_eatOn_100, fX11_eatOn_106, fX11_eatOn_112, fX11_eatOn_117, fX11_eatOn_122, fX11_eatOn_128, fX11_eatOn_135, fX11_eatOn_140, fX11_eatOn_156, fX11_eatOn_159, fX11_eatOn_182, fX11_eatOn_192, fX11_eatOn_193, fX11_eatOn_211, fX11_eatOn_217, fX11_eatOn_220, kI_0, mo_f15, mo_r15, mo_w15, kI_3, mo_isO, mo_f28, mo_r28, mo_w28, kI_1, kI_n, kB_14, mo_g26, mo_f27, mo_r27, mo_w27, kB_12, Option.bind_some, n35, n9, n19, n51, n59, nI_add, ix2, ix8, ix22, ix5, ↓reduceIte, pos_eq, h4, bI_f, n0_0, rw_w hw, stS_R, stR_sw h8, stR_ne h8, stR_eq, qE_12]
          · simp (disch := omega) only [gX11_eatOn, fX11_eatOn_0, fX11_eatOn_6, fX11_eatOn_17, fX11_eatOn_21, fX11_eatOn_24, fX11_eatOn_27, fX11_eatOn_30, fX11_eatOn_33, fX11_eatOn_36, fX11_eatOn_39, fX11_eatOn_43, fX11_eatOn_48, fX11_eatOn_66, fX11_eatOn_88, fX11_eatOn_100, fX11_eatOn_106, fX11_eatOn_112, fX11_eatOn_117, fX11_eatOn_122, fX11_eatOn_128, fX11_eatOn_135, fX11_eatOn_140, fX11_eatOn_156, fX11_eatOn_159, fX11_eatOn_182, fX11_eatOn_192, fX11_eatOn_193, fX11_eatOn_211, fX11_eatOn_217, fX11_eatOn_220, kI_0, mo_f15, mo_r15, mo_w15, kI_3, mo_isO, mo_f28, mo_r28, mo_w28, kI_1, kI_n, kB_14, mo_g26, mo_f27, mo_r27, mo_w27, kB_12, Option.bind_some, n35, n9, n19, n51, n59, nI_add, ix2, ix8, ix22, ix5, ↓reduceIte, pos_eq, h4, rw_w hw, stS_R, stR_sw h8, stR_ne h8, stR_eq, qE_12]
set_option maxRecDepth 100000 in
set_option maxHeartbeats 4000000 in
theorem c_eatOn (hw : rwA w) (h8 : w ≠ 178) (h9 : w ≠ 179) (h7 : w ≠ 167) (h0 : w ≠ 170) {P v d l : Nat} (hP : S 170 3 = nI P) (hP5 : P ≤ 5) (hv : v < 5000) (hd : S 167 26 = nI d) (hd8 : d < 8) (hR : S w (14 + d) = nI v) {H : Nat → Nat} (hH : ∀ p, p < P → S w p = nI (H p)) (hH5 : ∀ p, p < P → H p < 5000) (hl : l ≤ 99) (hA : ∀ j, j < 5 → S 178 j = nI 0) {e : Int32} : ∃ O : Row, gX11_eatOn 167 w e (nI l) (hp S J T) = some (hp (stR (stR (stR S 179 O) w (pE P (S w) (srv v (sq (S w) (fun p => lv (S w) p && !bt e p) P) 100 (H, l, fun _ => 0, true)).1 (srv v (sq (S w) (fun p => lv (S w) p && !bt e p) P) 100 (H, l, fun _ => 0, true)).2.1)) 178 (aE (S 178) (srv v (sq (S w) (fun p => lv (S w) p && !bt e p) P) 100 (H, l, fun _ => 0, true)).2.2.1)) J T) := by
  generalize hE : (fun p => lv (S w) p && !bt e p) = E
  have hI0 : sqI 0 (S 179) 0 ([], S 179) := ⟨Nat.le_refl _, (fun x hx => by cases hx), trivial, fun _ _ => rfl⟩
  have hI := itr_inv (f := soS (S w) E 0) (I := sqI 0 (S 179)) (N := P) (fun k s hk h => sqI_s (by omega) h) P 0 ([], S 179) (by omega) hI0
  have e1 := soS_1 (R := S w) (E := E) (o := 0) P 0 ([], S 179)
  refine ⟨(itr (soS (S w) E 0) P 0 ([], S 179)).2, ?_⟩
  unfold gX11_eatOn fX11_eatOn_0
  rw [kI_0]
  have hm0 : hp S J T = hp (stR S 179 (S 179)) J T := by rw [stR_self]
  rw [hm0]
  refine (for_loop lX11_eatOn_6 fX11_eatOn_6 (fun _ => rfl) (fun K k (q : List Nat × Row) => K 167 w e (nI l) (nI q.1.length) (nI k) (hp (stR S 179 q.2) J T)) (sqI 0 (S 179)) P (soS (S w) E 0) (fun q => lX11_eatOn_112 FU 167 w (nI q.1.length) (nI l) (nI 1) (hp (stR S 179 q.2) J T)) (fun K k q hk h => ?_) (fun k q hk h => sqI_s (by omega) h) (fun K q h => ?_) P 0 FU ([], S 179) (by omega) (FU_lt (by omega)) hI0).trans ?_
  · obtain ⟨g1, g2, g3, g4⟩ := h
    cases hlv : lv (S w) k with
    | false =>
      have es : soS (S w) E 0 k q = q := by unfold soS; rw [← hE]; simp only [hlv, Bool.false_and, Bool.false_eq_true, if_false]
      rw [es]
      simp (disch := omega) only [gX11_eatOn, fX11_eatOn_0, fX11_eatOn_6, fX11_eatOn_17, fX11_eatOn_21, fX11_eatOn_24, fX11_eatOn_27, fX11_eatOn_30, fX11_eatOn_33, fX11_eatOn_36, fX11_eatOn_39, fX11_eatOn_43, fX11_eatOn_48, fX11_eatOn_66, fX11_eatOn_88, fX11_eatOn_100, fX11_eatOn_106, fX11_eatOn_112, fX11_eatOn_117, fX11_eatOn_122, fX11_eatOn_128, fX11_eatOn_135, fX11_eatOn_140, fX11_eatOn_156, fX11_eatOn_159, fX11_eatOn_182, fX11_eatOn_192, fX11_eatOn_193, fX11_eatOn_211, fX11_eatOn_217, fX11_eatOn_220, kI_0, mo_f15, mo_r15, mo_w15, kI_3, mo_isO, mo_f28, mo_r28, mo_w28, kI_1, kI_n, kB_14, mo_g26, mo_f27, mo_r27, mo_w27, kB_12, Option.bind_some, n35, n9, n19, n51, n59, nI_add, ix2, ix8, ix22, ix5, ↓reduceIte, stR_ne (show 170 ≠ 179 by omega), hP, lt_eq, hk, c_lives hw, stR_ne h9, hlv, bI_f, n0_0]
    | true =>
      cases hbe : bt e k with
      | true =>
        have es : soS (S w) E 0 k q = q := by unfold soS; rw [← hE]; simp only [hlv, hbe, Bool.not_true, Bool.and_false, Bool.false_eq_true, if_false]
        rw [es]
        simp (disch := omega) only [gX11_eatOn, fX11_eatOn_0, fX11_eatOn_6, fX11_eatOn_17, fX11_eatOn_21, fX11_eatOn_24, fX11_eatOn_27, fX11_eatOn_30, fX11_eatOn_33, fX11_eatOn_36, fX11_eatOn_39, fX11_eatOn_43, fX11_eatOn_48, fX11_eatOn_66, fX11_eatOn_88, fX11_eatOn_100, fX11_eatOn_106, fX11_eatOn_112, fX11_eatOn_117, fX11_eatOn_122, fX11_eatOn_128, fX11_eatOn_135, fX11_eatOn_140, fX11_eatOn_156, fX11_eatOn_159, fX11_eatOn_182, fX11_eatOn_192, fX11_eatOn_193, fX11_eatOn_211, fX11_eatOn_217, fX11_eatOn_220, kI_0, mo_f15, mo_r15, mo_w15, kI_3, mo_isO, mo_f28, mo_r28, mo_w28, kI_1, kI_n, kB_14, mo_g26, mo_f27, mo_r27, mo_w27, kB_12, Option.bind_some, n35, n9, n19, n51, n59, nI_add, ix2, ix8, ix22, ix5, ↓reduceIte, stR_ne (show 170 ≠ 179 by omega), hP, lt_eq, hk, c_lives hw, stR_ne h9, hlv, bI_t, n1_0, c_hasBit, hbe]
      | false =>
        have es : soS (S w) E 0 k q = (rins (S w) k q.1, insO (S w) 0 k q.2 q.1) := by unfold soS; rw [← hE]; simp only [hlv, hbe, Bool.not_false, Bool.and_true, if_true]
        rw [es]
        simp (disch := omega) only [gX11_eatOn, fX11_eatOn_0, fX11_eatOn_6, fX11_eatOn_17, fX11_eatOn_21, fX11_eatOn_24, fX11_eatOn_27, fX11_eatOn_30, fX11_eatOn_33, fX11_eatOn_36, fX11_eatOn_39, fX11_eatOn_43, fX11_eatOn_48, fX11_eatOn_66, fX11_eatOn_88, fX11_eatOn_100, fX11_eatOn_106, fX11_eatOn_112, fX11_eatOn_117, fX11_eatOn_122, fX11_eatOn_128, fX11_eatOn_135, fX11_eatOn_140, fX11_eatOn_156, fX11_eatOn_159, fX11_eatOn_182, fX11_eatOn_192, fX11_eatOn_193, fX11_eatOn_211, fX11_eatOn_217, fX11_eatOn_220, kI_0, mo_f15, mo_r15, mo_w15, kI_3, mo_isO, mo_f28, mo_r28, mo_w28, kI_1, kI_n, kB_14, mo_g26, mo_f27, mo_r27, mo_w27, kB_12, Option.bind_some, n35, n9, n19, n51, n59, nI_add, ix2, ix8, ix22, ix5, ↓reduceIte, stR_ne (show 170 ≠ 179 by omega), hP, lt_eq, hk, c_lives hw, stR_ne h9, hlv, bI_t, n1_0, c_hasBit, hbe, bI_f, n0_0, rins_len]
        exact l_eatIn hw h9 (by omega) K q.1 q.2 FU (FU_lt (by omega)) (by omega) (fun x hx => by have := g2 x hx; omega) g3
  · simp (disch := omega) only [gX11_eatOn, fX11_eatOn_0, fX11_eatOn_6, fX11_eatOn_17, fX11_eatOn_21, fX11_eatOn_24, fX11_eatOn_27, fX11_eatOn_30, fX11_eatOn_33, fX11_eatOn_36, fX11_eatOn_39, fX11_eatOn_43, fX11_eatOn_48, fX11_eatOn_66, fX11_eatOn_88, fX11_eatOn_100, fX11_eatOn_106, fX11_eatOn_112, fX11_eatOn_117, fX11_eatOn_122, fX11_eatOn_128, fX11_eatOn_135, fX11_eatOn_140, fX11_eatOn_156, fX11_eatOn_159, fX11_eatOn_182, fX11_eatOn_192, fX11_eatOn_193, fX11_eatOn_211, fX11_eatOn_217, fX11_eatOn_220, kI_0, mo_f15, mo_r15, mo_w15, kI_3, mo_isO, mo_f28, mo_r28, mo_w28, kI_1, kI_n, kB_14, mo_g26, mo_f27, mo_r27, mo_w27, kB_12, Option.bind_some, n35, n9, n19, n51, n59, nI_add, ix2, ix8, ix22, ix5, ↓reduceIte, stR_ne (show 170 ≠ 179 by omega), hP, lt_eq, Nat.lt_irrefl]
  · generalize hq : itr (soS (S w) E 0) P 0 ([], S 179) = q at hI e1 ⊢
    have hsq : sq (S w) E P = q.1.reverse := by unfold sq; rw [e1]
    rw [hsq]
    have hlen : q.1.length = q.1.reverse.length := (List.length_reverse).symm
    rw [hlen]
    have hm1 : hp (stR S 179 q.2) J T = hp (stR (stR (stR S 179 q.2) w (qE P (S w) H)) 178 (aE (S 178) (fun _ => 0))) J T := by
      rw [qE_self hH]
      have ea : aE (S 178) (fun _ => 0) = S 178 := qE_self hA
      rw [ea]
      have eb : stR (stR S 179 q.2) w (S w) = stR S 179 q.2 := by
        conv => lhs; rw [show S w = stR S 179 q.2 w by rw [stR_ne h9]]
        rw [stR_self]
      rw [eb]
      have ec : stR (stR S 179 q.2) 178 (S 178) = stR S 179 q.2 := by
        conv => lhs; rw [show S 178 = stR S 179 q.2 178 by rw [stR_ne (by omega)]]
        rw [stR_self]
      rw [ec]
    rw [hm1]
    have := l_eatW (S := stR S 179 q.2) (J := J) (T := T) (A := S 178) (R := S w) (P := P) (v := v) (d := d) (F := q.1.reverse) hw h8 h9 h7 hP5 hv (by rw [stR_ne (by omega)]; exact hd) hd8 hR (fun p hp => by have := hI.2.1 p (List.mem_reverse.mp hp); omega) (fun i p hp => by rw [stR_eq]; have := ordA_rev hI.2.2.1 i p hp; rwa [Nat.zero_add] at this) (by rw [List.length_reverse]; have := hI.1; omega) 100 FU (H, l, fun _ => 0, true) (by dsimp only; omega) (FU_lt (by omega)) hH5 (by dsimp only; omega)
    exact this
end EATM

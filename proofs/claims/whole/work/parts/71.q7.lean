-- WHEN ONE IS DEAD, WHEN A NAME COMES FIRST
def dI (r : Row) (P N F : Nat) (R : Row) (p : Nat) : Nat → Nat → Option Nat
  | 0, _ => none
  | m + 1, n => if lv (dyN r P N F (r 0) n R) p then dI r P N F R p m (n + 1) else some n
def fI (r : Row) (P N F : Nat) (R : Row) (k : Nat) : Nat → Nat → Option Nat
  | 0, _ => none
  | m + 1, i => if dWt r (dyN r P N F (r 0) i R) P N false = some k then some (i + 1) else fI r P N F R k m (i + 1)
section DI
variable {r q R Q : Row} {P N F : Nat}
set_option maxRecDepth 100000 in
set_option maxHeartbeats 400000 in
theorem dI_ag (hr : agT r q P N F) (h : agR R Q P N) (hP5 : P ≤ 5) (p : Nat) : ∀ m n, dI r P N F R p m n = dI q P N F Q p m n := by
  intro m
  induction m with
  | zero => intro n; rfl
  | succ m ih =>
    intro n
    unfold dI
    have e := dyN_ag (bowl := r 0) hr h hP5 n
    rw [← hr.1 0 (by omega), ag_lv e p, ih]
set_option maxRecDepth 100000 in
set_option maxHeartbeats 400000 in
theorem fI_ag (hr : agT r q P N F) (h : agR R Q P N) (hP5 : P ≤ 5) (k : Nat) : ∀ m n, fI r P N F R k m n = fI q P N F Q k m n := by
  intro m
  induction m with
  | zero => intro n; rfl
  | succ m ih =>
    intro n
    unfold fI
    have e := dyN_ag (bowl := r 0) hr h hP5 n
    rw [← hr.1 0 (by omega), ag_dWt hr e, ih]
set_option maxRecDepth 100000 in
set_option maxHeartbeats 400000 in
theorem fdN_st {kv : Option Nat} {i d : Nat} (h : fdN r P N F R kv i = some d) : ∀ m, fdN r P N F R kv (i + m) = some d := by
  intro m
  induction m with
  | zero => exact h
  | succ m ih =>
    show fdN r P N F R kv (i + m + 1) = some d
    unfold fdN
    rw [ih]
set_option maxRecDepth 100000 in
set_option maxHeartbeats 400000 in
theorem fdN_fI {k : Nat} : ∀ m i, fdN r P N F R (some k) i = none → fdN r P N F R (some k) (i + m) = fI r P N F R k m i := by
  intro m
  induction m with
  | zero => intro i h; exact h
  | succ m ih =>
    intro i h
    have e1 : fdN r P N F R (some k) (i + 1) = if dWt r (dyN r P N F (r 0) i R) P N false = some k then some (i + 1) else none := by
      unfold fdN
      rw [h]
      dsimp only
      by_cases e : dWt r (dyN r P N F (r 0) i R) P N false = some k
      · rw [if_pos ⟨by simp, e⟩, if_pos e]
      · rw [if_neg (fun z => e z.2), if_neg e]
    unfold fI
    by_cases e : dWt r (dyN r P N F (r 0) i R) P N false = some k
    · rw [if_pos e] at e1 ⊢
      rw [show i + (m + 1) = i + 1 + m by omega]
      exact fdN_st e1 m
    · rw [if_neg e] at e1 ⊢
      rw [show i + (m + 1) = i + 1 + m by omega]
      exact ih (i + 1) e1
end DI
section Q7
variable {S S1 : Mem} {J : MeJ} {T : Nat → Nat} {t a w P N F U E D : Nat} {ht : Bool}
set_option maxRecDepth 100000 in
set_option maxHeartbeats 400000 in
theorem l_deadC (b1 : tlA (T 0)) (b2 : 56 ≤ T 0) (hT : TbS (S (T 0)) P N) (hF : S (T 0) 5 = nI F) (hF8 : F ≤ 8) {R : Row} (hI : Inv R P N D) (hD : D + 61 ≤ 3000) {p : Nat} (hp5 : p < 5) : ∀ (m n f : Nat) (S1 : Mem), n + m = 61 → m < f → fr S S1 [7, 8, 12, 15, 16] → crs S1 (S (T 0)) P N F (S (T 0) 0) R n → ∃ S', lX10_deadIn_27 f 0 (nI p) (nI n) (hp S1 J T) = some (oi (dI (S (T 0)) P N F R p m n), hp (stR S' 0 (up (S' 0) 11 (nI 0))) J T) ∧ fr S S' [7, 8, 12, 15, 16] := by
  intro m
  induction m with
  | zero =>
    intro n f S1 hk hf h1 h2
    obtain ⟨f, rfl⟩ : ∃ g, f = g + 1 := ⟨f - 1, by omega⟩
    obtain rfl : n = 61 := by omega
    refine ⟨S1, ?_, h1⟩
    unfold lX10_deadIn_27
    simp (disch := omega) only [fX10_deadIn_27, fX10_deadIn_77, fX10_deadIn_80, fX10_deadIn_83, kB_60, kB_o, lt_eq, show 60 < 61 by omega, ↓reduceIte, lt_isO, c_answer, Option.bind_some]
    rfl
  | succ m ih =>
    intro n f S1 hk hf h1 h2
    obtain ⟨f, rfl⟩ : ∃ g, f = g + 1 := ⟨f - 1, by omega⟩
    have et : S1 (T 0) = S (T 0) := h1 (T 0) (by simp; omega)
    have e8 := h2.1
    unfold lX10_deadIn_27 dI
    cases hl : lv (dyN (S (T 0)) P N F (S (T 0) 0) n R) p with
    | false =>
      have hd : bt (S1 8 10) p = true := by
        rw [e8]
        unfold lv at hl
        cases e : bt (dyN (S (T 0)) P N F (S (T 0) 0) n R 10) p
        · rw [e] at hl; cases hl
        · rfl
      refine ⟨S1, ?_, h1⟩
      simp (disch := omega) only [fX10_deadIn_27, fX10_deadIn_33, fX10_deadIn_41, fX10_deadIn_44, fX10_deadIn_47, fX10_deadIn_49, fX10_deadIn_52, kB_60, lt_eq, show ¬ 60 < n by omega, ↓reduceIte, lt_isO, lt_f1, co_f0, pl_isO plA_8, c_isDead plA_8, hd, bI_t, n1_0, c_answer, Option.bind_some, Bool.false_eq_true]
      rfl
    | true =>
      have hd : bt (S1 8 10) p = false := by
        rw [e8]
        unfold lv at hl
        cases e : bt (dyN (S (T 0)) P N F (S (T 0) 0) n R 10) p
        · rfl
        · rw [e] at hl; cases hl
      obtain ⟨S2, g1, g2, g3⟩ := crs_s (S := S1) (J := J) (T := T) b1 b2 (by rw [et]; exact hT) (by rw [et]; exact hF) hF8 (bowl := S (T 0) 0) hT.2.2.2.2.1 hI (n := n) (by omega) (by rw [et]; exact h2)
      rw [et] at g2
      obtain ⟨S3, k1, k2⟩ := ih (n + 1) f S2 (by omega) (by omega) (fr_tr h1 g3) g2
      refine ⟨S3, ?_, k2⟩
      rw [if_pos rfl, ← k1]
      simp (disch := omega) only [fX10_deadIn_27, fX10_deadIn_33, fX10_deadIn_41, fX10_deadIn_44, fX10_deadIn_53, fX10_deadIn_68, fX10_deadIn_71, kB_60, lt_eq, show ¬ 60 < n by omega, ↓reduceIte, lt_isO, lt_f1, lt_f9, co_f0, co_isO, tl_g0 b1, et, pl_isO plA_8, c_isDead plA_8, hd, bI_f, n0_0, g1, Option.bind_some, kI_1, nI_add]
set_option maxRecDepth 100000 in
set_option maxHeartbeats 400000 in
theorem l_deadM {r : Row} (hT : TbS r P N) (hF : r 5 = nI F) (hF8 : F ≤ 8) {R : Row} (hI : Inv R P N D) (hD : D + 61 ≤ 3000) {p : Nat} (hp5 : p < 5) : ∀ (m n f : Nat) (S1 : Mem), n + m = 61 → m < f → S1 170 = r → mcr S1 r P N F R n → ∃ S', lX11_deadIn_24 f 167 (nI p) (nI n) (hp S1 J T) = some (oi (dI r P N F R p m n), hp S' J T) ∧ mfr S1 S' := by
  intro m
  induction m with
  | zero =>
    intro n f S1 hk hf h1 h2
    obtain ⟨f, rfl⟩ : ∃ g, f = g + 1 := ⟨f - 1, by omega⟩
    obtain rfl : n = 61 := by omega
    refine ⟨S1, ?_, fr_rf _ _, fun _ _ _ => rfl⟩
    unfold lX11_deadIn_24
    simp (disch := omega) only [fX11_deadIn_24, fX11_deadIn_60, kB_60, kB_o, lt_eq, show 60 < 61 by omega, ↓reduceIte]
    rfl
  | succ m ih =>
    intro n f S1 hk hf h1 h2
    obtain ⟨f, rfl⟩ : ∃ g, f = g + 1 := ⟨f - 1, by omega⟩
    unfold lX11_deadIn_24 dI
    rw [← h2.1]
    cases hl : lv (S1 175) p with
    | false =>
      refine ⟨S1, ?_, fr_rf _ _, fun _ _ _ => rfl⟩
      simp (disch := omega) only [fX11_deadIn_24, fX11_deadIn_30, fX11_deadIn_36, fX11_deadIn_39, fX11_deadIn_42, kB_60, lt_eq, show ¬ 60 < n by omega, ↓reduceIte, mo_f20, mo_isO, c_lives rwA_175, hl, bI_f, n0_0, Option.bind_some, Bool.false_eq_true]
      rfl
    | true =>
      obtain ⟨S2, g1, g2, g3⟩ := mcr_s (S := S1) (J := J) (T := T) h1 hT hF hF8 hI (n := n) (by omega) h2
      obtain ⟨S3, k1, k2⟩ := ih (n + 1) f S2 (by omega) (by omega) ((g3.1 170 (by simp)).trans h1) g2
      refine ⟨S3, ?_, mfr_tr g3 k2⟩
      rw [if_pos rfl, ← k1]
      simp (disch := omega) only [fX11_deadIn_24, fX11_deadIn_30, fX11_deadIn_36, fX11_deadIn_39, fX11_deadIn_44, fX11_deadIn_51, fX11_deadIn_54, kB_60, lt_eq, show ¬ 60 < n by omega, ↓reduceIte, mo_f20, mo_isO, c_lives rwA_175, hl, bI_t, n1_0, kI_0, g1, Option.bind_some, kI_1, nI_add]
set_option maxRecDepth 100000 in
set_option maxHeartbeats 400000 in
theorem l_firstC (b1 : tlA (T 0)) (b2 : 56 ≤ T 0) (hT : TbS (S (T 0)) P N) (hF : S (T 0) 5 = nI F) (hF8 : F ≤ 8) {R : Row} (hI : Inv R P N D) (hD : D + 61 ≤ 3000) {k : Nat} (hk8 : k < 8) : ∀ (m i f : Nat) (S1 : Mem), i + m = 60 → m < f → fr S S1 [7, 8, 12, 15, 16] → crs S1 (S (T 0)) P N F (S (T 0) 0) R i → ∃ S', lX10_firstDish_27 f 0 (nI k) (nI (i + 1)) (hp S1 J T) = some (oi (fI (S (T 0)) P N F R k m i), hp (stR S' 0 (up (S' 0) 11 (nI 0))) J T) ∧ fr S S' [7, 8, 12, 15, 16] := by
  intro m
  induction m with
  | zero =>
    intro i f S1 hk hf h1 h2
    obtain ⟨f, rfl⟩ : ∃ g, f = g + 1 := ⟨f - 1, by omega⟩
    obtain rfl : i = 60 := by omega
    refine ⟨S1, ?_, h1⟩
    unfold lX10_firstDish_27
    simp (disch := omega) only [fX10_firstDish_27, fX10_firstDish_77, fX10_firstDish_80, fX10_firstDish_83, kB_60, kB_o, lt_eq, show 60 < 60 + 1 by omega, ↓reduceIte, lt_isO, c_answer, Option.bind_some]
    rfl
  | succ m ih =>
    intro i f S1 hk hf h1 h2
    obtain ⟨f, rfl⟩ : ∃ g, f = g + 1 := ⟨f - 1, by omega⟩
    have et : S1 (T 0) = S (T 0) := h1 (T 0) (by simp; omega)
    obtain ⟨S2, g1, g2, g3⟩ := crs_s (S := S1) (J := J) (T := T) b1 b2 (by rw [et]; exact hT) (by rw [et]; exact hF) hF8 (bowl := S (T 0) 0) hT.2.2.2.2.1 hI (n := i) (by omega) (by rw [et]; exact h2)
    rw [et] at g2
    have hw := (g2.2.1 i rfl).2
    have hql : ∀ j, dWt (S (T 0)) (dyN (S (T 0)) P N F (S (T 0) 0) i R) P N false = some j → j < N := dWt_lt
    have hN8 := hT.2.2.2.1
    unfold lX10_firstDish_27 fI
    by_cases e : dWt (S (T 0)) (dyN (S (T 0)) P N F (S (T 0) 0) i R) P N false = some k
    · rw [if_pos e]
      rw [e, oi_some] at hw
      refine ⟨S2, ?_, fr_tr h1 g3⟩
      simp (disch := omega) only [fX10_firstDish_27, fX10_firstDish_33, fX10_firstDish_48, fX10_firstDish_51, fX10_firstDish_65, fX10_firstDish_67, fX10_firstDish_70, kB_60, lt_eq, show ¬ 60 < i + 1 by omega, ↓reduceIte, lt_isO, lt_f1, lt_f9, co_f1, co_isO, tl_g0 b1, et, g1, ml_g1 mlA_12, hw, c_answer, Option.bind_some]
      rfl
    · rw [if_neg e]
      have hne : (S2 12 1 = nI k) = False := by
        rw [hw]
        refine eq_false (fun z => e ?_)
        cases h3 : dWt (S (T 0)) (dyN (S (T 0)) P N F (S (T 0) 0) i R) P N false with
        | none => rw [h3, on_nI (by omega)] at z; exact z.elim
        | some j =>
          have := hql j h3
          rw [h3, oi_some, eq_eq (by omega) (by omega)] at z
          rw [z]
      obtain ⟨S3, k1, k2⟩ := ih (i + 1) f S2 (by omega) (by omega) (fr_tr h1 g3) g2
      refine ⟨S3, ?_, k2⟩
      rw [← k1]
      simp (disch := omega) only [fX10_firstDish_27, fX10_firstDish_33, fX10_firstDish_48, fX10_firstDish_51, fX10_firstDish_71, kB_60, lt_eq, show ¬ 60 < i + 1 by omega, ↓reduceIte, lt_isO, lt_f1, lt_f9, co_f1, co_isO, tl_g0 b1, et, g1, ml_g1 mlA_12, hne, Option.bind_some, kI_1, nI_add]
set_option maxRecDepth 100000 in
set_option maxHeartbeats 400000 in
theorem q_deadIn (h : Rl S T) (p : Int32) : bth (fun h => gX10_deadIn 0 p h) (fun h => gX11_deadIn 167 p h) S J T := by
  obtain ⟨ht, P, N, F, U, E, hB⟩ := Rl_bas h
  obtain ⟨b1, b2, b3, b4, b5, b6, b7, b8, b9, b10⟩ := id hB
  have hanew : ∀ S1 : Mem, gX11_anew 167 (hp S1 J T) = some (hp (stR S1 167 (nw S1)) J T) := fun S1 => c_anew
  have hip : ∀ S1, fr S S1 CL → gX11_isPerson 167 p (hp (stR S1 167 (nw S1)) J T) = some (bI (okB' p P), hp (stR S1 167 (nw S1)) J T) := fun S1 hf => m_isP (S1 := stR S1 167 (nw S1)) (J := J) (p := p) hB (by rw [stR_eq, nw14, hf 167 (by decide)]) (by rw [stR_ne (by omega)]; exact hf 170 (by decide))
  cases hok : okB' p P with
  | false =>
    rw [hok] at hip
    refine bth_q h (v := m1) (tr := nI 1) (cq_no ?_) (fun S1 hf => mq_no (X := up (nw S1) 11 (nI 1)) ?_ up_eq (nw_p S1 _)) n1_4
    · simp (disch := omega) only [gX10_deadIn, fX10_deadIn_0, fX10_deadIn_2, fX10_deadIn_5, fX10_deadIn_8, fX10_deadIn_10, fX10_deadIn_13, fX10_deadIn_14, fX10_deadIn_22, fX10_deadIn_25, fX10_deadIn_27, fX10_deadIn_33, fX10_deadIn_41, fX10_deadIn_44, fX10_deadIn_47, fX10_deadIn_49, fX10_deadIn_52, fX10_deadIn_53, fX10_deadIn_68, fX10_deadIn_71, fX10_deadIn_77, fX10_deadIn_80, fX10_deadIn_83, lt_isO, kI_1, lt_f1, lt_f8, co_isO, kI_0, kB_60, co_f0, lt_f9, tl_g0 b1, kB_o, Option.bind_some, n35, n9, n19, n51, n59, nI_add, ix2, ix8, ix22, ix5, ↓reduceIte, c_lacksPerson b1 b3, hok, Bool.not_false, bI_t, n1_0, c_refuse]
    · simp (disch := omega) only [gX11_deadIn, fX11_deadIn_0, fX11_deadIn_1, fX11_deadIn_4, fX11_deadIn_6, fX11_deadIn_9, fX11_deadIn_12, fX11_deadIn_14, fX11_deadIn_17, fX11_deadIn_18, fX11_deadIn_19, fX11_deadIn_22, fX11_deadIn_24, fX11_deadIn_30, fX11_deadIn_36, fX11_deadIn_39, fX11_deadIn_42, fX11_deadIn_44, fX11_deadIn_51, fX11_deadIn_54, fX11_deadIn_60, mo_isO, kI_1, kI_0, kB_60, mo_f20, kB_o, Option.bind_some, n35, n9, n19, n51, n59, nI_add, ix2, ix8, ix22, ix5, ↓reduceIte, hanew, hip S1 hf, bI_f, n0_0, c_no, stR_stR, stR_eq]
  | true =>
    rw [hok] at hip
    obtain rfl := ok_yes hB hok
    obtain ⟨k, hk, rfl⟩ := okB_t (by omega) hok
    have hy := b9 rfl
    obtain ⟨y1, y2, y3, y4, y5, y6, y7, y8⟩ := id hy
    refine bth_q h (v := oi (dI (S 170) P N F (S 174) k 61 0)) (tr := nI 0) ?_ (fun S1 hf => ?_) n0_4
    · have hR : agR (cpR (S 139) (S 8) 22) (S 174) P N := agR_cp b5 b6 y5
      obtain ⟨S0, g1, g2, g3, g4, g5, g6, g7⟩ := c_start (S := S) (J := J) (T := T) plA_139 (by omega) (by omega) (by omega) (by omega)
      obtain ⟨S', k1, k2⟩ := l_deadC (S := S) (J := J) (T := T) (P := P) (N := N) (F := F) (D := 999) (p := k) b1 b2 (TbS_ag y2 y1.1) (by rw [y2.1 5 (by omega)]; exact y1.2.2.1) y1.2.2.2.1 (Inv_ag hR y6) (by omega) (by omega) 61 0 FU S0 (by omega) (FU_lt (by omega)) g7 ⟨g2, (fun i hi => by omega), (fun p hp => g3 p (by omega)), (fun p hp => g4 p (by omega)), g5, g6⟩
      refine ⟨stR S' 0 (up (S' 0) 11 (nI 0)), ?_, fr_st (fr_CL (fr_rf S _) k2) (by decide), by rw [stR_eq, up_eq], by rw [stR_eq, up_ne (by omega), k2 0 (by decide)]⟩
      rw [dI_ag y2 hR b5] at k1
      simp (disch := omega) only [gX10_deadIn, fX10_deadIn_0, fX10_deadIn_2, fX10_deadIn_5, fX10_deadIn_14, fX10_deadIn_22, fX10_deadIn_25, lt_isO, c_lacksPerson b1 b3, hok, Bool.not_true, bI_f, n0_0, ↓reduceIte, lt_f1, lt_f8, co_isO, g1, kI_0, Option.bind_some]
      exact k1
    · have e170 : S1 170 = S 170 := hf 170 (by decide)
      have e174 : S1 174 = S 174 := hf 174 (by decide)
      have hR : agR (cpR (S 174) (S1 175) 22) (S 174) P N := agR_cp b5 b6 (agR_rf _ _ _)
      have h0 : mcr (stR (stR S1 167 (nw S1)) 175 (cpR (S 174) (S1 175) 22)) (S 170) P N F (cpR (S 174) (S1 175) 22) 0 := ⟨by rw [stR_eq]; rfl, fun i hi => by omega⟩
      obtain ⟨S', k1, k2⟩ := l_deadM (J := J) (T := T) (P := P) (N := N) (F := F) (D := 999) (p := k) y1.1 y1.2.2.1 y1.2.2.2.1 (Inv_ag hR y6) (by omega) (by omega) 61 0 FU _ (by omega) (FU_lt (by omega)) (by rw [stR_ne (by omega), stR_ne (by omega)]; exact e170) h0
      have k3 : mfr (stR S1 167 (nw S1)) S' := mfr_tr ⟨fr_st (fr_rf _ _) (by simp), fun j _ _ => by rw [stR_ne (by omega)]⟩ k2
      obtain ⟨q1, q2, q3⟩ := mfr_q k3
      refine ⟨S', ?_, q1, q2, q3⟩
      rw [dI_ag (agT_rf _ P N F) hR b5] at k1
      simp (disch := omega) only [gX11_deadIn, fX11_deadIn_0, fX11_deadIn_1, fX11_deadIn_4, fX11_deadIn_6, fX11_deadIn_9, fX11_deadIn_18, fX11_deadIn_19, fX11_deadIn_22, mo_isO, Option.bind_some, hanew, hip S1 hf, bI_t, n1_0, ↓reduceIte, c_begin, stR_ne (show 174 ≠ 167 by omega), stR_ne (show 175 ≠ 167 by omega), e174, kI_0]
      exact k1
set_option maxRecDepth 100000 in
set_option maxHeartbeats 400000 in
theorem q_firstDish (h : Rl S T) (p : Int32) : bth (fun h => gX10_firstDish 0 p h) (fun h => gX11_firstDish 167 p h) S J T := by
  obtain ⟨ht, P, N, F, U, E, hB⟩ := Rl_bas h
  obtain ⟨b1, b2, b3, b4, b5, b6, b7, b8, b9, b10⟩ := id hB
  have hanew : ∀ S1 : Mem, gX11_anew 167 (hp S1 J T) = some (hp (stR S1 167 (nw S1)) J T) := fun S1 => c_anew
  have hip : ∀ S1, fr S S1 CL → gX11_isName 167 p (hp (stR S1 167 (nw S1)) J T) = some (bI (okB' p N), hp (stR S1 167 (nw S1)) J T) := fun S1 hf => m_isN (S1 := stR S1 167 (nw S1)) (J := J) (p := p) hB (by rw [stR_eq, nw14, hf 167 (by decide)]) (by rw [stR_ne (by omega)]; exact hf 170 (by decide))
  cases hok : okB' p N with
  | false =>
    rw [hok] at hip
    refine bth_q h (v := m1) (tr := nI 1) (cq_no ?_) (fun S1 hf => mq_no (X := up (nw S1) 11 (nI 1)) ?_ up_eq (nw_p S1 _)) n1_4
    · simp (disch := omega) only [gX10_firstDish, fX10_firstDish_0, fX10_firstDish_2, fX10_firstDish_5, fX10_firstDish_8, fX10_firstDish_10, fX10_firstDish_13, fX10_firstDish_14, fX10_firstDish_22, fX10_firstDish_25, fX10_firstDish_27, fX10_firstDish_33, fX10_firstDish_48, fX10_firstDish_51, fX10_firstDish_65, fX10_firstDish_67, fX10_firstDish_70, fX10_firstDish_71, fX10_firstDish_77, fX10_firstDish_80, fX10_firstDish_83, lt_isO, kI_1, lt_f1, lt_f8, co_isO, kB_60, lt_f9, tl_g0 b1, co_f1, kB_o, Option.bind_some, n35, n9, n19, n51, n59, nI_add, ix2, ix8, ix22, ix5, ↓reduceIte, c_lacksName b1 b4, hok, Bool.not_false, bI_t, n1_0, c_refuse]
    · simp (disch := omega) only [gX11_firstDish, fX11_firstDish_0, fX11_firstDish_1, fX11_firstDish_4, fX11_firstDish_6, fX11_firstDish_9, fX11_firstDish_12, fX11_firstDish_14, fX11_firstDish_17, fX11_firstDish_18, fX11_firstDish_23, fX11_firstDish_26, mo_isO, kI_1, kI_n, kB_60, mo_g33, Option.bind_some, n35, n9, n19, n51, n59, nI_add, ix2, ix8, ix22, ix5, ↓reduceIte, hanew, hip S1 hf, bI_f, n0_0, c_no, stR_stR, stR_eq]
  | true =>
    rw [hok] at hip
    obtain rfl := ok_yesN hB hok
    obtain ⟨k, hk, rfl⟩ := okB_t (by omega) hok
    have hy := b9 rfl
    obtain ⟨y1, y2, y3, y4, y5, y6, y7, y8⟩ := id hy
    have hfd : fdN (S 170) P N F (S 174) (some k) 60 = fI (S 170) P N F (S 174) k 60 0 := by
      have := fdN_fI (r := S 170) (P := P) (N := N) (F := F) (R := S 174) (k := k) 60 0 rfl
      rwa [Nat.zero_add] at this
    refine bth_q h (v := oi (fI (S 170) P N F (S 174) k 60 0)) (tr := nI 0) ?_ (fun S1 hf => ?_) n0_4
    · have hR : agR (cpR (S 139) (S 8) 22) (S 174) P N := agR_cp b5 b6 y5
      obtain ⟨S0, g1, g2, g3, g4, g5, g6, g7⟩ := c_start (S := S) (J := J) (T := T) plA_139 (by omega) (by omega) (by omega) (by omega)
      obtain ⟨S', k1, k2⟩ := l_firstC (S := S) (J := J) (T := T) (P := P) (N := N) (F := F) (D := 999) (k := k) b1 b2 (TbS_ag y2 y1.1) (by rw [y2.1 5 (by omega)]; exact y1.2.2.1) y1.2.2.2.1 (Inv_ag hR y6) (by omega) (by omega) 60 0 FU S0 (by omega) (FU_lt (by omega)) g7 ⟨g2, (fun i hi => by omega), (fun p hp => g3 p (by omega)), (fun p hp => g4 p (by omega)), g5, g6⟩
      refine ⟨stR S' 0 (up (S' 0) 11 (nI 0)), ?_, fr_st (fr_CL (fr_rf S _) k2) (by decide), by rw [stR_eq, up_eq], by rw [stR_eq, up_ne (by omega), k2 0 (by decide)]⟩
      rw [fI_ag y2 hR b5] at k1
      simp (disch := omega) only [gX10_firstDish, fX10_firstDish_0, fX10_firstDish_2, fX10_firstDish_5, fX10_firstDish_14, fX10_firstDish_22, fX10_firstDish_25, lt_isO, c_lacksName b1 b4, hok, Bool.not_true, bI_f, n0_0, ↓reduceIte, lt_f1, lt_f8, co_isO, g1, kI_1, Option.bind_some]
      exact k1
    · obtain ⟨S2, k1, k2, k3⟩ := y_within (S := S) (S0 := stR S1 167 (nw S1)) (J := J) (T := T) (pv := none) (kv := some k) hy (by rw [stR_ne (by omega)]; exact hf 170 (by decide)) (by rw [stR_ne (by omega)]; exact hf 174 (by decide)) (fun j hj => by cases hj) (fun j hj => by cases hj; omega) (show 60 ≤ 60 by omega)
      rw [pI_n, pI_s] at k1
      obtain ⟨q1, q2, q3⟩ := wfm_q k3
      have hv := k2.2.2.2.2
      rw [hfd] at hv
      refine ⟨S2, ?_, q1, q2, q3⟩
      simp (disch := omega) only [gX11_firstDish, fX11_firstDish_0, fX11_firstDish_1, fX11_firstDish_4, fX11_firstDish_6, fX11_firstDish_9, fX11_firstDish_12, fX11_firstDish_14, fX11_firstDish_17, fX11_firstDish_18, fX11_firstDish_23, fX11_firstDish_26, mo_isO, kI_1, kI_n, kB_60, mo_g33, Option.bind_some, n35, n9, n19, n51, n59, nI_add, ix2, ix8, ix22, ix5, ↓reduceIte, hanew, hip S1 hf, bI_t, n1_0, k1, hv]
end Q7

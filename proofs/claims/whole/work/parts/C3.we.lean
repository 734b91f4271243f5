-- WHO FLINCHES: all ways
def sumF (f : Nat → Nat) : Nat → Nat
  | 0 => 0
  | k + 1 => sumF f k + f k
set_option maxRecDepth 100000 in
set_option maxHeartbeats 400000 in
theorem sumF_cg {f g : Nat → Nat} : ∀ n, (∀ k, k < n → f k = g k) → sumF f n = sumF g n := by
  intro n
  induction n with
  | zero => intro _; rfl
  | succ n ih =>
    intro h
    show sumF f n + f n = sumF g n + g n
    rw [ih (fun k hk => h k (by omega)), h n (by omega)]
set_option maxRecDepth 100000 in
set_option maxHeartbeats 400000 in
theorem sumF_le {f g : Nat → Nat} {c : Nat} : ∀ n, (∀ k, k < n → f k ≤ c * g k) → sumF f n ≤ c * sumF g n := by
  intro n
  induction n with
  | zero => intro _; exact Nat.zero_le _
  | succ n ih =>
    intro h
    show sumF f n + f n ≤ c * (sumF g n + g n)
    rw [Nat.mul_add]
    exact Nat.add_le_add (ih (fun k hk => h k (by omega))) (h n (by omega))
def wS (f M s : Nat) : Nat := wgt f (bt (nI s)) M
set_option maxRecDepth 100000 in
set_option maxHeartbeats 400000 in
theorem wS_all : ∀ M, M < 7 → ∀ f, f < 101 → sumF (wS f M) (2 ^ M) = 100 ^ M := by decide +kernel
set_option maxRecDepth 100000 in
set_option maxHeartbeats 400000 in
theorem pw_M : ∀ M, M < 7 → nI 1 <<< (nI M &&& 31) = nI (2 ^ M) ∧ 2 ^ M ≤ 64 := by decide
def wA (r R : Row) (P N F f M j s : Nat) : Nat := if wht r R P N F (bt (nI s)) M = some j then wS f M s else 0
def wB (r R : Row) (P N F f M : Nat) (v : Int32) (s : Nat) : Nat := if oi (wht r R P N F (bt (nI s)) M) = v then wS f M s else 0
def wC (r R : Row) (P N F f M s : Nat) : Nat := match wht r R P N F (bt (nI s)) M with
  | none => 0
  | some j => wS f M s * cN2 (R (14 + j))
section WE2
variable {S : Mem} {J : MeJ} {T : Nat → Nat} {t P N F : Nat}
set_option maxRecDepth 100000 in
set_option maxHeartbeats 400000 in
theorem l_wsets (htl : tlA t) (ht0 : 56 ≤ t) {r R : Row} (hT : TbS r P N) (hF : r 5 = nI F) (hF8 : F ≤ 8) {M f : Nat} (hM : M ≤ 6) (hM0 : 0 < M) (hf : f ≤ 100) (hr2 : r 2 = nI f) (hI : Inv R P N 999) : ∀ m k g S1 J1, k + m = 2 ^ M → m < g → S1 t = r → S1 139 = R → (∀ j, j < 8 → J1 48 j = nJ (sumF (wA r R P N F f M j) k)) → ∃ S' J', lX0_weigh_43 g 47 t 139 (nI M) (nI k) (hp S1 J1 T) = some (hp S' J' T) ∧ (∀ j, j < 8 → J' 48 j = nJ (sumF (wA r R P N F f M j) (2 ^ M))) ∧ (∀ c, c ≠ 48 → J' c = J1 c) ∧ fr S1 S' [49, 53] := by
  obtain ⟨p1, p2⟩ := pw_M M (by omega)
  intro m
  induction m with
  | zero =>
    intro k g S1 J1 hk hg h1 h2 h3
    obtain ⟨g, rfl⟩ : ∃ x, g = x + 1 := ⟨g - 1, by omega⟩
    obtain rfl : k = 2 ^ M := by omega
    refine ⟨S1, J1, ?_, h3, fun _ _ => rfl, fr_rf _ _⟩
    unfold lX0_weigh_43
    simp (disch := omega) only [fX0_weigh_43, fX0_weigh_66, kI_1, p1, lt_eq, Nat.lt_irrefl, ↓reduceIte]
  | succ m ih =>
    intro k g S1 J1 hk hg h1 h2 h3
    obtain ⟨g, rfl⟩ : ∃ x, g = x + 1 := ⟨g - 1, by omega⟩
    obtain ⟨S2, J2, a1, a2, a3, a4⟩ := c_way (S := S1) (J := J1) (T := T) (t := t) (P := P) (N := N) (F := F) (M := M) (f := f) (s := k) htl ht0 hT hF hF8 hM hM0 hf hr2 (by rw [h2]; exact hI) h1
    obtain ⟨S3, J3, c1, c2, c3, c4⟩ := ih (k + 1) g S2 J2 (by omega) (by omega) (by rw [a4 t (by simp; omega)]; exact h1) (by rw [a4 139 (by decide)]; exact h2) (fun j hj => by
      rw [a2 j hj, h3 j hj, nJ_add, h2]
      rfl)
    refine ⟨S3, J3, ?_, c2, fun c hc => (c3 c hc).trans (a3 c hc), fr_tr a4 c4⟩
    rw [← c1]
    conv => lhs; unfold lX0_weigh_43
    simp (disch := omega) only [fX0_weigh_43, fX0_weigh_51, fX0_weigh_57, fX0_weigh_60, kI_1, p1, lt_eq, show k < 2 ^ M by omega, ch_isO, a1, Option.bind_some, ↓reduceIte, nI_add]
set_option maxRecDepth 100000 in
set_option maxHeartbeats 400000 in
theorem l_whole {M : Nat} (hM : M ≤ 6) : lX0_weigh_16 FU 47 t 139 (nI M) (nI 0) (hp S (stX J 47 (upJ (J 47) 0 (nJ (100 ^ 0)))) T) = fX0_weigh_40 47 t 139 (nI M) (hp S (stX J 47 (upJ (J 47) 0 (nJ (100 ^ M)))) T) := by
  refine for_at lX0_weigh_16 fX0_weigh_16 (fun _ => rfl) (fun K k (y : Int64) => K 47 t 139 (nI M) (nI k) (hp S (stX J 47 (upJ (J 47) 0 y)) T)) M (fun k => nJ (100 ^ k)) _ (fun K k hk => ?_) (fun K => ?_) (FU_lt (by omega))
  · have e : nJ (100 ^ k) * (100 : Int64) = nJ (100 ^ (k + 1)) := nJ_mul (100 ^ k) 100
    have e2 : upJ (upJ (J 47) 0 (nJ (100 ^ k))) 0 (nJ (100 ^ (k + 1))) = upJ (J 47) 0 (nJ (100 ^ (k + 1))) := by
      funext j
      unfold upJ
      split <;> rfl
    simp (disch := omega) only [fX0_weigh_16, fX0_weigh_22, fX0_weigh_27, fX0_weigh_30, ch_g0, ch_p0, lt_eq, hk, kI_1, Option.bind_some, ↓reduceIte, nI_add, stX_eq, upJ_eq, stJ_X, stX_stX, e, e2]
  · simp (disch := omega) only [fX0_weigh_16, lt_eq, Nat.lt_irrefl, ↓reduceIte]
set_option maxRecDepth 100000 in
set_option maxHeartbeats 400000 in
theorem c_weighC (htl : tlA t) (ht0 : 56 ≤ t) {r R : Row} (hT : TbS r P N) (hF : r 5 = nI F) (hF8 : F ≤ 8) {M f : Nat} (hM : M ≤ 6) (hM0 : 0 < M) (hf : f ≤ 100) (hr2 : r 2 = nI f) (hI : Inv R P N 999) (h1 : S t = r) (h2 : S 139 = R) : ∃ S' J', gX0_weigh 47 t 139 (nI M) (hp S J T) = some (hp S' J' T) ∧ J' 47 0 = nJ (100 ^ M) ∧ (∀ j, j < 8 → J' 48 j = nJ (sumF (wA r R P N F f M j) (2 ^ M))) ∧ fr S S' [49, 53] := by
  have hl := l_whole (S := S) (J := stX J 48 (flJ (J 48) (nJ 0) 8)) (T := T) (t := t) hM
  rw [stX_ne (show 47 ≠ 48 by omega)] at hl
  obtain ⟨S', J', a1, a2, a3, a4⟩ := l_wsets (T := T) (t := t) (P := P) (N := N) (F := F) (M := M) (f := f) htl ht0 hT hF hF8 hM hM0 hf hr2 hI (2 ^ M) 0 FU S (stX (stX J 48 (flJ (J 48) (nJ 0) 8)) 47 (upJ (J 47) 0 (nJ (100 ^ M)))) (by omega) (by have := (pw_M M (by omega)).2; exact FU_lt (by omega)) h1 h2 (fun j hj => by
    rw [stX_ne (by omega), stX_eq]
    exact if_pos hj)
  refine ⟨S', J', ?_, by rw [a3 47 (by omega), stX_eq, upJ_eq], a2, a4⟩
  rw [← a1]
  have hl2 : fX0_weigh_40 47 t 139 (nI M) (hp S (stX (stX J 48 (flJ (J 48) (nJ 0) 8)) 47 (upJ (J 47) 0 (nJ (100 ^ M)))) T) = lX0_weigh_43 FU 47 t 139 (nI M) (nI 0) (hp S (stX (stX J 48 (flJ (J 48) (nJ 0) 8)) 47 (upJ (J 47) 0 (nJ (100 ^ M)))) T) := by
    unfold fX0_weigh_40
    rw [kI_0]
  rw [← hl2, ← hl]
  simp (disch := omega) only [gX0_weigh, fX0_weigh_0, fX0_weigh_5, fX0_weigh_8, ch_f1, kJ_0, kJ_1, kI_0, c_fillJ, ch_p0, Option.bind_some, stJ_X, stX_ne (show 47 ≠ 48 by omega)]
-- a way, the reference
set_option maxRecDepth 100000 in
set_option maxHeartbeats 400000 in
theorem l_tf34 {r R : Row} (hT : TbS r P N) (hF : r 5 = nI F) (hF8 : F ≤ 8) {M f s D : Nat} (hM : M ≤ 6) (hD : D ≤ 2000) (hf : f ≤ 100) (hr2 : r 2 = nI f) (hI : Inv R P N D) {v1 : Int32} (K : Nat → Int32 → Int32 → Int32 → aH → Option aH) : ∀ m k g S1, k + m = M → m < g → S1 170 = r → S1 175 = dyF r P N F (bt (nI s)) k R → (0 < k → S1 167 26 = oi (wht r R P N F (bt (nI s)) k)) → ∃ S', lX11_tryFlinch_34 K g 167 v1 (nI M) (nI s) (nJ (wgt f (bt (nI s)) k)) (nI k) (hp S1 J T) = fX11_tryFlinch_95 K 167 v1 (nI M) (nI s) (nJ (wgt f (bt (nI s)) M)) (hp S' J T) ∧ S' 175 = dyF r P N F (bt (nI s)) M R ∧ (0 < M → S' 167 26 = oi (wht r R P N F (bt (nI s)) M)) ∧ mfr S1 S' := by
  intro m
  induction m with
  | zero =>
    intro k g S1 hk hg h1 h2 h3
    obtain ⟨g, rfl⟩ : ∃ x, g = x + 1 := ⟨g - 1, by omega⟩
    obtain rfl : k = M := by omega
    refine ⟨S1, ?_, h2, h3, fr_rf _ _, fun _ _ _ => rfl⟩
    unfold lX11_tryFlinch_34
    simp (disch := omega) only [fX11_tryFlinch_34, lt_eq, Nat.lt_irrefl, ↓reduceIte]
  | succ m ih =>
    intro k g S1 hk hg h1 h2 h3
    obtain ⟨g, rfl⟩ : ∃ x, g = x + 1 := ⟨g - 1, by omega⟩
    obtain ⟨S2, k1, k2, k3, k4, k5⟩ := m_day (S := S1) (J := J) (T := T) (w := 175) (P := P) (N := N) (F := F) (D := D + k) (bes := nI 0) (fl := bt (nI s) k) rwA_175 (by omega) (by omega) (by omega) (by omega) (by rw [h1]; exact hT) (by rw [h1]; exact hF) hF8 (by rw [h2]; exact dyF_inv hT hI k (by omega)) (by omega)
    rw [h1, h2] at k2 k3
    obtain ⟨S3, a1, a2, a3, a4⟩ := ih (k + 1) g S2 (by omega) (by omega) (by rw [k5 170 (by decide)]; exact h1) k2 (fun _ => by rw [k3, up_eq]; rfl)
    refine ⟨S3, ?_, a2, a3, mfr_tr ⟨fr_mo k5 (by decide), fun j z1 z2 => by rw [k3, up_ne z2, up_ne z1]⟩ a4⟩
    rw [← a1]
    have e2 : S1 170 2 = nI f := by rw [h1]; exact hr2
    obtain ⟨t1, t2⟩ := tJ f hf
    conv => lhs; unfold lX11_tryFlinch_34
    cases hfl : bt (nI s) k with
    | true =>
      rw [hfl, bI_t] at k1
      have ew : wgt f (bt (nI s)) (k + 1) = wgt f (bt (nI s)) k * f := by show _ * (if bt (nI s) k = true then f else 100 - f) = _; rw [hfl]; rfl
      rw [ew, ← nJ_mul]
      simp (disch := omega) only [fX11_tryFlinch_34, fX11_tryFlinch_40, fX11_tryFlinch_45, fX11_tryFlinch_48, fX11_tryFlinch_51, fX11_tryFlinch_71, fX11_tryFlinch_83, fX11_tryFlinch_86, fX11_tryFlinch_89, lt_eq, show k < M by omega, c_hasBit, hfl, bI_t, n1_0, kI_0, kI_1, kI_2, mo_f15, mo_f20, mo_r15, mo_isO, e2, t1, k1, Option.bind_some, ↓reduceIte, nI_add]
    | false =>
      rw [hfl, bI_f] at k1
      have ew : wgt f (bt (nI s)) (k + 1) = wgt f (bt (nI s)) k * (100 - f) := by show _ * (if bt (nI s) k = true then f else 100 - f) = _; rw [hfl]; rfl
      rw [ew, ← nJ_mul]
      simp (disch := omega) only [fX11_tryFlinch_34, fX11_tryFlinch_40, fX11_tryFlinch_45, fX11_tryFlinch_48, fX11_tryFlinch_61, fX11_tryFlinch_71, fX11_tryFlinch_83, fX11_tryFlinch_86, fX11_tryFlinch_89, lt_eq, show k < M by omega, c_hasBit, hfl, bI_f, n0_0, kI_0, kI_1, kI_2, kB_100, mo_f15, mo_f20, mo_r15, mo_isO, e2, t2, k1, Option.bind_some, ↓reduceIte, nI_add]
def tfJ (J1 : MeJ) (a b c : Int64) : MeJ := stX J1 167 (upJ (upJ (upJ (J1 167) 41 a) 42 b) 43 c)
set_option maxRecDepth 100000 in
set_option maxHeartbeats 400000 in
theorem l_tf17 {r Q : Row} (hT : TbS r P N) (hF : r 5 = nI F) (hF8 : F ≤ 8) {M f : Nat} (hM : M ≤ 6) (hM0 : 0 < M) (hf : f ≤ 100) (hr2 : r 2 = nI f) (hI : Inv Q P N 999) {v1 : Int32} : ∀ m k g S1 J1, k + m = 2 ^ M → m < g → S1 170 = r → S1 174 = Q → J1 167 41 = nJ (sumF (wS f M) k) → J1 167 42 = nJ (sumF (wB r Q P N F f M v1) k) → J1 167 43 = nJ (sumF (wC r Q P N F f M) k) → ∃ S' J', lX11_tryFlinch_17 g 167 v1 (nI M) (nI k) (hp S1 J1 T) = some (hp S' J' T) ∧ J' 167 41 = nJ (sumF (wS f M) (2 ^ M)) ∧ J' 167 42 = nJ (sumF (wB r Q P N F f M v1) (2 ^ M)) ∧ J' 167 43 = nJ (sumF (wC r Q P N F f M) (2 ^ M)) ∧ mfr S1 S' := by
  obtain ⟨p1, p2⟩ := pw_M M (by omega)
  have hP5 : P ≤ 5 := hT.2.1
  have hN8 : N ≤ 8 := hT.2.2.2.1
  intro m
  induction m with
  | zero =>
    intro k g S1 J1 hk hg h1 h2 h3 h4 h5
    obtain ⟨g, rfl⟩ : ∃ x, g = x + 1 := ⟨g - 1, by omega⟩
    obtain rfl : k = 2 ^ M := by omega
    refine ⟨S1, J1, ?_, h3, h4, h5, fr_rf _ _, fun _ _ _ => rfl⟩
    unfold lX11_tryFlinch_17
    simp (disch := omega) only [fX11_tryFlinch_17, fX11_tryFlinch_171, kI_1, p1, lt_eq, Nat.lt_irrefl, ↓reduceIte]
  | succ m ih =>
    intro k g S1 J1 hk hg h1 h2 h3 h4 h5
    obtain ⟨g, rfl⟩ : ∃ x, g = x + 1 := ⟨g - 1, by omega⟩
    have hb := c_begin (S := S1) (J := J1) (T := T)
    rw [h2] at hb
    have hR : agR (cpR Q (S1 175) 22) Q P N := agR_cp hP5 hN8 (agR_rf _ _ _)
    obtain ⟨S2, a1, a2, a3, a4⟩ := l_tf34 (J := J1) (T := T) (P := P) (N := N) (F := F) (M := M) (f := f) (s := k) (D := 999) (R := cpR Q (S1 175) 22) hT hF hF8 hM (by omega) hf hr2 (Inv_ag hR hI) (v1 := v1) (lX11_tryFlinch_17 g) M 0 FU (stR S1 175 (cpR Q (S1 175) 22)) (by omega) (FU_lt (by omega)) (by rw [stR_ne (by omega)]; exact h1) stR_eq (fun z => absurd z (by omega))
    have e26 := a3 hM0
    rw [wht_ag (agT_rf r P N F) hR hP5] at e26
    have hm : mfr S1 S2 := mfr_tr ⟨fr_st (fr_rf S1 _) (by decide), fun j _ _ => by rw [stR_ne (by omega)]⟩ a4
    have g170 : S2 170 = r := by rw [hm.1 170 (by decide)]; exact h1
    have g174 : S2 174 = Q := by rw [hm.1 174 (by decide)]; exact h2
    have ew : wgt f (bt (nI k)) M = wS f M k := rfl
    rw [ew] at a1
    have hwo : ∀ j, S2 175 (14 + j) = cpR Q (S1 175) 22 (14 + j) := fun j => by rw [a2]; exact dyF_wo hP5 j M
    generalize hA : nJ (sumF (wS f M) (k + 1)) = A
    generalize hBv : nJ (sumF (wB r Q P N F f M v1) (k + 1)) = Bv
    generalize hC : nJ (sumF (wC r Q P N F f M) (k + 1)) = Cv
    obtain ⟨S3, J3, c1, c2, c3, c4, c5⟩ := ih (k + 1) g S2 (tfJ J1 A Bv Cv) (by omega) (by omega) g170 g174 (by unfold tfJ; rw [stX_eq, upJ_ne (by omega), upJ_ne (by omega), upJ_eq, hA]) (by unfold tfJ; rw [stX_eq, upJ_ne (by omega), upJ_eq, hBv]) (by unfold tfJ; rw [stX_eq, upJ_eq, hC])
    refine ⟨S3, J3, ?_, c2, c3, c4, mfr_tr hm c5⟩
    rw [← c1]
    have eA : J1 167 41 + nJ (wS f M k) = A := by rw [h3, nJ_add, ← hA]; rfl
    have hstart : lX11_tryFlinch_17 (g + 1) 167 v1 (nI M) (nI k) (hp S1 J1 T) = fX11_tryFlinch_95 (lX11_tryFlinch_17 g) 167 v1 (nI M) (nI k) (nJ (wS f M k)) (hp S2 J1 T) := by
      refine Eq.trans ?_ a1
      conv => lhs; unfold lX11_tryFlinch_17
      simp (disch := omega) only [fX11_tryFlinch_17, fX11_tryFlinch_24, fX11_tryFlinch_28, fX11_tryFlinch_31, kI_0, kI_1, kJ_1, p1, lt_eq, show k < 2 ^ M by omega, mo_isO, hb, Option.bind_some, ↓reduceIte]
      rfl
    rw [hstart]
    have hv : ∀ y z : Int64, y = (if S2 167 26 = v1 then nJ (wS f M k) else nJ 0) → J1 167 42 + y = Bv := fun y z hy => by
      rw [hy, h4, e26, ← hBv]
      show _ = nJ (sumF _ k + wB r Q P N F f M v1 k)
      unfold wB
      split
      · rw [nJ_add]
      · rw [nJ_add]
    cases hx : wht r Q P N F (bt (nI k)) M with
    | none =>
      rw [hx] at e26
      have eC : J1 167 43 + nJ 0 = Cv := by
        rw [h5, nJ_add, ← hC]
        show nJ (sumF _ k + 0) = nJ (sumF _ k + wC r Q P N F f M k)
        unfold wC
        rw [hx]
      by_cases hq : oi none = v1
      · have eB : J1 167 42 + nJ (wS f M k) = Bv := hv _ 0 (by rw [e26, if_pos hq])
        simp (disch := omega) only [fX11_tryFlinch_95, fX11_tryFlinch_119, fX11_tryFlinch_125, fX11_tryFlinch_141, fX11_tryFlinch_161, mo_g41, mo_p41, mo_g42, mo_p42, mo_g43, mo_p43, mo_g26, e26, hq, on_lt, kJ_0, kI_1, Option.bind_some, ↓reduceIte, stJ_X, stX_stX, stX_eq, upJ_ne, eA, eB, eC, tfJ, nI_add]
        rw [← hq]
        simp (disch := omega) only [on_lt, ↓reduceIte, fX11_tryFlinch_141, fX11_tryFlinch_161, mo_p43, kJ_0, kI_1, Option.bind_some, stJ_X, stX_stX, stX_eq, upJ_ne, eC, nI_add]
      · have eB : J1 167 42 + nJ 0 = Bv := hv _ 0 (by rw [e26, if_neg hq])
        simp (disch := omega) only [fX11_tryFlinch_95, fX11_tryFlinch_124, fX11_tryFlinch_125, fX11_tryFlinch_141, fX11_tryFlinch_161, mo_g41, mo_p41, mo_g42, mo_p42, mo_g43, mo_p43, mo_g26, e26, hq, on_lt, kJ_0, kI_1, Option.bind_some, ↓reduceIte, stJ_X, stX_stX, stX_eq, upJ_ne, eA, eB, eC, tfJ, nI_add]
    | some j =>
      have hj := wht_lt hx
      rw [hx, oi_some] at e26
      obtain ⟨w, hw, ew2⟩ := hI.2.2.2.2.1 j hj
      have hval : S2 175 (14 + j) = nI w := by rw [hwo j, show cpR Q (S1 175) 22 (14 + j) = Q (14 + j) from if_pos (by omega), ew2]
      have eC : J1 167 43 + nJ (wS f M k) * (nI w).toInt64 = Cv := by
        rw [(tJ w (by omega)).1, nJ_mul, h5, nJ_add, ← hC]
        show _ = nJ (sumF _ k + wC r Q P N F f M k)
        unfold wC
        rw [hx]
        show _ = nJ (sumF _ k + wS f M k * cN2 (Q (14 + j)))
        have := (sm_cN (B := 20) ⟨w, hw, ew2⟩ (by omega)).1
        rw [ew2, eq_eq (by omega) (by have := (sm_cN (B := 20) ⟨w, hw, ew2⟩ (by omega)).2; rw [ew2] at this; omega)] at this
        rw [ew2, ← this]
      by_cases hq : nI j = v1
      · have eB : J1 167 42 + nJ (wS f M k) = Bv := hv _ 0 (by rw [e26, if_pos hq])
        have e26' : S2 167 26 = v1 := e26.trans hq
        simp (disch := omega) only [fX11_tryFlinch_95, fX11_tryFlinch_119, fX11_tryFlinch_125, mo_g41, mo_p41, mo_g42, mo_p42, mo_g43, mo_g26, e26', kJ_0, kI_1, Option.bind_some, ↓reduceIte, stJ_X, stX_stX, stX_eq, upJ_ne, eA, eB]
        rw [← hq]
        simp (disch := omega) only [fX11_tryFlinch_145, fX11_tryFlinch_161, nI_lt0, kB_14, mo_f20, mo_g26, e26, rw_r rwA_175, hval, mo_p43, kI_1, Option.bind_some, ↓reduceIte, nI_add, stJ_X, stX_stX, stX_eq, eC, tfJ]
      · have eB : J1 167 42 + nJ 0 = Bv := hv _ 0 (by rw [e26, if_neg hq])
        simp (disch := omega) only [fX11_tryFlinch_95, fX11_tryFlinch_124, fX11_tryFlinch_125, fX11_tryFlinch_145, fX11_tryFlinch_161, mo_g41, mo_p41, mo_g42, mo_p42, mo_g43, mo_p43, mo_g26, mo_f20, e26, hq, nI_lt0, kB_14, rw_r rwA_175, hval, kJ_0, kI_1, Option.bind_some, ↓reduceIte, nI_add, stJ_X, stX_stX, stX_eq, upJ_ne, eA, eB, eC, tfJ]
set_option maxRecDepth 100000 in
set_option maxHeartbeats 400000 in
theorem c_tryF {r Q : Row} (hT : TbS r P N) (hF : r 5 = nI F) (hF8 : F ≤ 8) {M f : Nat} (hM : M ≤ 6) (hM0 : 0 < M) (hf : f ≤ 100) (hr2 : r 2 = nI f) (hI : Inv Q P N 999) {v1 : Int32} (h1 : S 170 = r) (h2 : S 174 = Q) : ∃ S' J', gX11_tryFlinch 167 v1 (nI M) (hp S J T) = some (hp S' J' T) ∧ J' 167 41 = nJ (100 ^ M) ∧ J' 167 42 = nJ (sumF (wB r Q P N F f M v1) (2 ^ M)) ∧ J' 167 43 = nJ (sumF (wC r Q P N F f M) (2 ^ M)) ∧ mfr S S' := by
  obtain ⟨S', J', a1, a2, a3, a4, a5⟩ := l_tf17 (T := T) (P := P) (N := N) (F := F) (M := M) (f := f) hT hF hF8 hM hM0 hf hr2 hI (v1 := v1) (2 ^ M) 0 FU S (tfJ J (nJ 0) (nJ 0) (nJ 0)) (by omega) (by have := (pw_M M (by omega)).2; exact FU_lt (by omega)) h1 h2 (by unfold tfJ; rw [stX_eq, upJ_ne (by omega), upJ_ne (by omega), upJ_eq]; rfl) (by unfold tfJ; rw [stX_eq, upJ_ne (by omega), upJ_eq]; rfl) (by unfold tfJ; rw [stX_eq, upJ_eq]; rfl)
  refine ⟨S', J', ?_, by rw [a2, wS_all M (by omega) f (by omega)], a3, a4, a5⟩
  rw [← a1]
  simp (disch := omega) only [gX11_tryFlinch, fX11_tryFlinch_0, mo_p41, mo_p42, mo_p43, kJ_0, kI_0, Option.bind_some, stJ_X, stX_stX, stX_eq, tfJ]
end WE2

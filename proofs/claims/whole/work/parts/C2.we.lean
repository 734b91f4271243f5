-- WHO FLINCHES: ways and their weights
def dyF (r : Row) (P N F : Nat) (fl : Nat → Bool) : Nat → Row → Row
  | 0, R => R
  | n + 1, R => dayR r (dyF r P N F fl n R) P N F (nI 0) (fl n) (r 0)
set_option maxRecDepth 100000 in
set_option maxHeartbeats 400000 in
theorem dyF_inv {r R : Row} {P N F D : Nat} {fl : Nat → Bool} (ht : TbS r P N) (h : Inv R P N D) : ∀ n, D + n ≤ 3001 → Inv (dyF r P N F fl n R) P N (D + n) := by
  intro n
  induction n with
  | zero => intro _; exact h
  | succ n ih => intro hn; exact day_inv ht (ih (by omega)) (by omega) ht.2.2.2.2.1
set_option maxRecDepth 100000 in
set_option maxHeartbeats 400000 in
theorem dyF_ag {r q R Q : Row} {P N F : Nat} {fl : Nat → Bool} (hr : agT r q P N F) (h : agR R Q P N) (hP5 : P ≤ 5) : ∀ n, agR (dyF r P N F fl n R) (dyF q P N F fl n Q) P N := by
  intro n
  induction n with
  | zero => exact h
  | succ n ih =>
    show agR (dayR r _ P N F (nI 0) (fl n) (r 0)) (dayR q _ P N F (nI 0) (fl n) (q 0)) P N
    rw [hr.1 0 (by omega)]
    exact (ag_day hr ih hP5 _ _ _).1
set_option maxRecDepth 100000 in
set_option maxHeartbeats 400000 in
theorem dyF_wo {r R : Row} {P N F : Nat} {fl : Nat → Bool} (hP5 : P ≤ 5) (k : Nat) : ∀ n, dyF r P N F fl n R (14 + k) = R (14 + k) := by
  intro n
  induction n with
  | zero => rfl
  | succ n ih =>
    rw [← ih]
    exact wo_day (R := dyF r P N F fl n R) hP5 (some k)
def wgt (f : Nat) (fl : Nat → Bool) : Nat → Nat
  | 0 => 1
  | n + 1 => wgt f fl n * (if fl n then f else 100 - f)
set_option maxRecDepth 100000 in
set_option maxHeartbeats 400000 in
theorem wgt_0 {f : Nat} {fl : Nat → Bool} {k : Nat} (h : wgt f fl k = 0) : ∀ m, wgt f fl (k + m) = 0 := by
  intro m
  induction m with
  | zero => exact h
  | succ m ih =>
    show wgt f fl (k + m) * _ = 0
    rw [ih, Nat.zero_mul]
set_option maxRecDepth 100000 in
set_option maxHeartbeats 400000 in
theorem wgt_le {f : Nat} (hf : f ≤ 100) {fl : Nat → Bool} : ∀ n, wgt f fl n ≤ 100 ^ n := by
  intro n
  induction n with
  | zero => exact Nat.le_refl _
  | succ n ih =>
    show wgt f fl n * _ ≤ 100 ^ n * 100
    refine Nat.mul_le_mul ih ?_
    split <;> omega
set_option maxRecDepth 100000 in
set_option maxHeartbeats 400000 in
theorem tJ : ∀ a, a ≤ 100 → (nI a).toInt64 = nJ a ∧ (nI 100 - nI a).toInt64 = nJ (100 - a) := by decide
def wht (r R : Row) (P N F : Nat) (fl : Nat → Bool) : Nat → Option Nat
  | 0 => none
  | n + 1 => dWt r (dyF r P N F fl n R) P N (fl n)
set_option maxRecDepth 100000 in
set_option maxHeartbeats 400000 in
theorem wht_lt {r R : Row} {P N F : Nat} {fl : Nat → Bool} {n k : Nat} (h : wht r R P N F fl n = some k) : k < N := by
  cases n with
  | zero => cases h
  | succ n => exact dWt_lt k h
set_option maxRecDepth 100000 in
set_option maxHeartbeats 400000 in
theorem wht_ag {r q R Q : Row} {P N F : Nat} {fl : Nat → Bool} (hr : agT r q P N F) (h : agR R Q P N) (hP5 : P ≤ 5) (n : Nat) : wht r R P N F fl n = wht q Q P N F fl n := by
  cases n with
  | zero => rfl
  | succ n => exact ag_dWt hr (dyF_ag hr h hP5 n) _
-- rows of longs
def upJ (R : Nat → Int64) (i : Nat) (x : Int64) : Nat → Int64 := fun j => if j = i then x else R j
def stX (J : MeJ) (b : Nat) (R : Nat → Int64) : MeJ := fun c => if c = b then R else J c
set_option maxRecDepth 100000 in
set_option maxHeartbeats 400000 in
theorem stX_eq {J : MeJ} {b : Nat} {R : Nat → Int64} : stX J b R b = R := if_pos rfl
set_option maxRecDepth 100000 in
set_option maxHeartbeats 400000 in
theorem stX_ne {J : MeJ} {b c : Nat} {R : Nat → Int64} (h : c ≠ b) : stX J b R c = J c := if_neg h
set_option maxRecDepth 100000 in
set_option maxHeartbeats 400000 in
theorem upJ_eq {R : Nat → Int64} {i : Nat} {x : Int64} : upJ R i x i = x := if_pos rfl
set_option maxRecDepth 100000 in
set_option maxHeartbeats 400000 in
theorem upJ_ne {R : Nat → Int64} {i j : Nat} {x : Int64} (h : j ≠ i) : upJ R i x j = R j := if_neg h
set_option maxRecDepth 100000 in
set_option maxHeartbeats 400000 in
theorem stJ_X {J : MeJ} {b i : Nat} {x : Int64} : stJ J b i x = stX J b (upJ (J b) i x) := by
  funext c j
  unfold stJ stX upJ
  by_cases h : c = b
  · subst h
    rw [if_pos rfl]
    by_cases h2 : j = i
    · rw [if_pos ⟨rfl, h2⟩, if_pos h2]
    · rw [if_neg (fun z => h2 z.2), if_neg h2]
  · rw [if_neg (fun z => h z.1), if_neg h]
set_option maxRecDepth 100000 in
set_option maxHeartbeats 400000 in
theorem stX_stX {J : MeJ} {b : Nat} {R Q : Nat → Int64} : stX (stX J b R) b Q = stX J b Q := by
  funext c
  unfold stX
  split <;> rfl
set_option maxRecDepth 100000 in
set_option maxHeartbeats 400000 in
theorem stX_self {J : MeJ} {b : Nat} : stX J b (J b) = J := by
  funext c
  unfold stX
  split
  · rename_i h; rw [h]
  · rfl
def flJ (R : Nat → Int64) (x : Int64) (k : Nat) : Nat → Int64 := fun j => if j < k then x else R j
set_option maxRecDepth 100000 in
set_option maxHeartbeats 400000 in
theorem flJ_s (R : Nat → Int64) (x : Int64) (k : Nat) : upJ (flJ R x k) k x = flJ R x (k + 1) := by
  funext j
  unfold upJ flJ
  by_cases h : j = k
  · rw [if_pos h, if_pos (by omega)]
  · rw [if_neg h]
    by_cases h2 : j < k
    · rw [if_pos h2, if_pos (by omega)]
    · rw [if_neg h2, if_neg (by omega)]
section WE
variable {S : Mem} {J : MeJ} {T : Nat → Nat} {t P N F : Nat}
set_option maxRecDepth 100000 in
set_option maxHeartbeats 400000 in
theorem c_fillJ {x : Int64} : gJ7_fill_d0a16 48 x (hp S J T) = some (hp S (stX J 48 (flJ (J 48) x 8)) T) := by
  have hc : SH[48]? = some (.inl (3, 48, 0, 1, 8)) := rfl
  simp only [gJ7_fill_d0a16, fJ7_fill_d0a16_0, kI_0, hp_aLn hc (by omega), Option.bind_some]
  have h0 : hp S J T = hp S (stX J 48 (flJ (J 48) x 0)) T := by
    have e : flJ (J 48) x 0 = J 48 := by funext j; exact if_neg (by omega)
    rw [e, stX_self]
  rw [h0]
  refine for_at lJ7_fill_d0a16_6 fJ7_fill_d0a16_6 (fun _ => rfl) (fun K k (R : Nat → Int64) => K 48 x (nI k) (nI 8) (hp S (stX J 48 R) T)) 8 (flJ (J 48) x) _ (fun K k hk => ?_) (fun K => ?_) (FU_lt (by omega))
  · rw [← flJ_s]
    have hw : aWJ (hp S (stX J 48 (flJ (J 48) x k)) T) 48 (nI k) x = some (hp S (stJ (stX J 48 (flJ (J 48) x k)) 48 k x) T) := hp_aWJ (m := 1) (o := 0) hc (by omega) hk (by omega) (by omega)
    simp (disch := omega) only [gJ7_fill_d0a16, fJ7_fill_d0a16_0, fJ7_fill_d0a16_6, fJ7_fill_d0a16_12, fJ7_fill_d0a16_22, kI_0, kI_1, Option.bind_some, n35, n9, n19, n51, n59, nI_add, ix2, ix8, ix22, ix5, ↓reduceIte, lt_eq, hk, hw, stJ_X, stX_stX, stX_eq]
  · simp (disch := omega) only [gJ7_fill_d0a16, fJ7_fill_d0a16_0, fJ7_fill_d0a16_6, fJ7_fill_d0a16_12, fJ7_fill_d0a16_22, kI_0, kI_1, Option.bind_some, n35, n9, n19, n51, n59, nI_add, ix2, ix8, ix22, ix5, ↓reduceIte, lt_eq, Nat.lt_irrefl]
set_option maxRecDepth 100000 in
set_option maxHeartbeats 400000 in
theorem s62 {n : Nat} (h : n ≤ 6) : 100 ^ n < 2 ^ 62 := Nat.lt_of_le_of_lt (Nat.pow_le_pow_right (by omega) h) (by decide)
-- a way, the class
set_option maxRecDepth 100000 in
set_option maxHeartbeats 400000 in
theorem l_way (htl : tlA t) (ht0 : 56 ≤ t) {r R : Row} (hT : TbS r P N) (hF : r 5 = nI F) (hF8 : F ≤ 8) {M f s D : Nat} (hM : M ≤ 6) (hM0 : 0 < M) (hD : D ≤ 2000) (hf : f ≤ 100) (hr2 : r 2 = nI f) (hI : Inv R P N D) : ∀ m k g S1, k + m = M → m < g → S1 t = r → S1 49 = dyF r P N F (bt (nI s)) k R → (0 < k → S1 53 1 = oi (wht r R P N F (bt (nI s)) k)) → ∃ S' J', lX0_weighWay_14 g 47 t (nI M) (nI s) (nJ (wgt f (bt (nI s)) k)) (nI k) (hp S1 J T) = some (hp S' J' T) ∧ (∀ j, j < 8 → J' 48 j = J 48 j + nJ (if wht r R P N F (bt (nI s)) M = some j then wgt f (bt (nI s)) M else 0)) ∧ (∀ c, c ≠ 48 → J' c = J c) ∧ fr S1 S' [49, 53] := by
  have hN8 : N ≤ 8 := hT.2.2.2.1
  have a0 : ∀ x : Int64, x + nJ 0 = x := fun x => Int64.add_zero x
  have fin : ∀ (S1 : Mem) (k w : Nat), 0 < k → S1 53 1 = oi (wht r R P N F (bt (nI s)) k) → ∃ J', fX0_weighWay_96 47 (nJ w) (hp S1 J T) = some (hp S1 J' T) ∧ (∀ j, j < 8 → J' 48 j = J 48 j + nJ (if wht r R P N F (bt (nI s)) k = some j then w else 0)) ∧ (∀ c, c ≠ 48 → J' c = J c) := by
    intro S1 k w hk h1
    cases hx : wht r R P N F (bt (nI s)) k with
    | none =>
      rw [hx] at h1
      refine ⟨J, ?_, fun j hj => ?_, fun _ _ => rfl⟩
      · simp (disch := omega) only [fX0_weighWay_96, fX0_weighWay_123, ch_f3, ml_g1 mlA_53, h1, on_lt, Option.bind_some, ↓reduceIte]
      · rw [if_neg (by intro z; cases z), a0]
    | some i =>
      have hi := wht_lt hx
      rw [hx, oi_some] at h1
      refine ⟨stX J 48 (upJ (J 48) i (J 48 i + nJ w)), ?_, fun j hj => ?_, fun c hc => stX_ne hc⟩
      · simp (disch := omega) only [fX0_weighWay_96, fX0_weighWay_106, fX0_weighWay_123, ch_f1, ch_f3, ch_r1, ch_w1, ml_g1 mlA_53, h1, nI_lt0, Option.bind_some, ↓reduceIte, stJ_X]
      · rw [stX_eq]
        by_cases z : j = i
        · rw [z, upJ_eq, if_pos rfl]
        · rw [upJ_ne z, if_neg (fun q => z (Option.some.inj q).symm), a0]
  intro m
  induction m with
  | zero =>
    intro k g S1 hk hg h1 h2 h3
    obtain ⟨g, rfl⟩ : ∃ x, g = x + 1 := ⟨g - 1, by omega⟩
    obtain rfl : k = M := by omega
    obtain ⟨J', j1, j2, j3⟩ := fin S1 k (wgt f (bt (nI s)) k) hM0 (h3 hM0)
    refine ⟨S1, J', ?_, j2, j3, fr_rf _ _⟩
    unfold lX0_weighWay_14
    simp (disch := omega) only [fX0_weighWay_14, lt_eq, Nat.lt_irrefl, ↓reduceIte]
    exact j1
  | succ m ih =>
    intro k g S1 hk hg h1 h2 h3
    obtain ⟨g, rfl⟩ : ∃ x, g = x + 1 := ⟨g - 1, by omega⟩
    have hw62 : wgt f (bt (nI s)) k < 2 ^ 62 := Nat.lt_of_le_of_lt (wgt_le hf k) (s62 (by omega))
    rcases Nat.eq_zero_or_pos (wgt f (bt (nI s)) k) with z | z
    · have hk0 : 0 < k := by
        rcases Nat.eq_zero_or_pos k with y | y
        · subst y; exact absurd z (by show ¬ 1 = 0; omega)
        · exact y
      obtain ⟨J', j1, j2, j3⟩ := fin S1 k 0 hk0 (h3 hk0)
      have hwM : wgt f (bt (nI s)) M = 0 := by rw [← hk]; exact wgt_0 z (m + 1)
      have c1 : (0 < lg_cmp (nJ 0) (kJ 0)) = False := by rw [cm_p (by decide)]; exact eq_false (by omega)
      refine ⟨S1, J', ?_, fun j hj => ?_, j3, fr_rf _ _⟩
      · unfold lX0_weighWay_14
        simp (disch := omega) only [fX0_weighWay_14, fX0_weighWay_20, lt_eq, show k < M by omega, z, c1, ↓reduceIte]
        exact j1
      · rw [j2 j hj, hwM, ite_self, ite_self]
    · have c1 : (0 < lg_cmp (nJ (wgt f (bt (nI s)) k)) (kJ 0)) = True := by rw [cm_p hw62]; exact eq_true z
      obtain ⟨S2, k1, k2, k3, k4⟩ := y_hold (S := S1) (J := J) (T := T) (a := 49) (m := 53) (t := t) (P := P) (N := N) (F := F) (D := D + k) (bes := nI 0) (fl := bt (nI s) k) mlA_53 plA_49 htl (by omega) (by omega) (by omega) (by rw [h1]; exact hT) (by rw [h1]; exact hF) hF8 (by rw [h2]; exact dyF_inv hT hI k (by omega))
      rw [h1] at k1
      rw [h1, h2] at k2 k3
      obtain ⟨S3, J3, a1, a2, a3, a4⟩ := ih (k + 1) g S2 (by omega) (by omega) (by rw [k4 t (by simp; omega)]; exact h1) k2 (fun _ => k3)
      refine ⟨S3, J3, ?_, a2, a3, fr_tr k4 a4⟩
      rw [← a1]
      have e2 : S1 t 2 = nI f := by rw [h1]; exact hr2
      have e0 : S1 t 0 = r 0 := by rw [h1]
      obtain ⟨t1, t2⟩ := tJ f hf
      conv => lhs; unfold lX0_weighWay_14
      cases hfl : bt (nI s) k with
      | true =>
        rw [hfl, bI_t] at k1
        have ew : wgt f (bt (nI s)) (k + 1) = wgt f (bt (nI s)) k * f := by show _ * (if bt (nI s) k = true then f else 100 - f) = _; rw [hfl]; rfl
        rw [ew, ← nJ_mul]
        simp (disch := omega) only [fX0_weighWay_14, fX0_weighWay_20, fX0_weighWay_27, fX0_weighWay_38, fX0_weighWay_43, fX0_weighWay_52, fX0_weighWay_68, fX0_weighWay_87, fX0_weighWay_90, lt_eq, show k < M by omega, c1, kI_0, kI_1, bt_eq, hfl, n1_0, ↓reduceIte, ch_f2, ch_f3, tl_g2 htl, tl_g0 htl, e2, e0, t1, ml_isO mlA_53, Option.bind_some, nI_add, k1]
      | false =>
        rw [hfl, bI_f] at k1
        have ew : wgt f (bt (nI s)) (k + 1) = wgt f (bt (nI s)) k * (100 - f) := by show _ * (if bt (nI s) k = true then f else 100 - f) = _; rw [hfl]; rfl
        rw [ew, ← nJ_mul]
        simp (disch := omega) only [fX0_weighWay_14, fX0_weighWay_20, fX0_weighWay_27, fX0_weighWay_42, fX0_weighWay_43, fX0_weighWay_60, fX0_weighWay_68, fX0_weighWay_87, fX0_weighWay_90, lt_eq, show k < M by omega, c1, kI_0, kI_1, kB_100, bt_eq, hfl, Bool.false_eq_true, n0_0, ↓reduceIte, ch_f2, ch_f3, tl_g2 htl, tl_g0 htl, e2, e0, t2, ml_isO mlA_53, Option.bind_some, nI_add, k1]
set_option maxRecDepth 100000 in
set_option maxHeartbeats 400000 in
theorem c_way (htl : tlA t) (ht0 : 56 ≤ t) {r : Row} (hT : TbS r P N) (hF : r 5 = nI F) (hF8 : F ≤ 8) {M f s : Nat} (hM : M ≤ 6) (hM0 : 0 < M) (hf : f ≤ 100) (hr2 : r 2 = nI f) (hI : Inv (S 139) P N 999) (ht : S t = r) : ∃ S' J', gX0_weighWay 47 t 139 (nI M) (nI s) (hp S J T) = some (hp S' J' T) ∧ (∀ j, j < 8 → J' 48 j = J 48 j + nJ (if wht r (S 139) P N F (bt (nI s)) M = some j then wgt f (bt (nI s)) M else 0)) ∧ (∀ c, c ≠ 48 → J' c = J c) ∧ fr S S' [49, 53] := by
  have hP5 : P ≤ 5 := hT.2.1
  have hN8 : N ≤ 8 := hT.2.2.2.1
  have hR : agR (cpR (S 139) (S 49) 22) (S 139) P N := agR_cp hP5 hN8 (agR_rf _ _ _)
  obtain ⟨S', J', a1, a2, a3, a4⟩ := l_way (J := J) (T := T) (t := t) (P := P) (N := N) (F := F) (M := M) (f := f) (s := s) (D := 999) (R := cpR (S 139) (S 49) 22) htl ht0 hT hF hF8 hM hM0 (by omega) hf hr2 (Inv_ag hR hI) M 0 FU (stR S 49 (cpR (S 139) (S 49) 22)) (by omega) (FU_lt (by omega)) (by rw [stR_ne (by omega)]; exact ht) stR_eq (fun z => absurd z (by omega))
  refine ⟨S', J', ?_, fun j hj => ?_, a3, fr_tr (fr_st (fr_rf S _) (by decide)) a4⟩
  · refine Eq.trans ?_ a1
    simp (disch := omega) only [gX0_weighWay, fX0_weighWay_0, fX0_weighWay_8, fX0_weighWay_11, ch_f2, pl_isO plA_49, c_copy plA_49 plA_139 (show 139 ≠ 49 by omega), kI_0, kJ_1, Option.bind_some]
    rfl
  · rw [a2 j hj, wht_ag (agT_rf r P N F) hR hP5]
end WE

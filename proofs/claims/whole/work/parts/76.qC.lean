-- THE SMALLEST BOWL
section UP0
variable {r R : Row} {P N F : Nat} {x : Int32}
set_option maxRecDepth 100000 in
set_option maxHeartbeats 400000 in
theorem u0_sh : sh (up r 0 x) R = sh r R := by
  funext p
  unfold sh se
  rw [up_ne (by omega), up_ne (by omega)]
set_option maxRecDepth 100000 in
set_option maxHeartbeats 400000 in
theorem u0_wn (fl : Bool) : wn (up r 0 x) R P fl = wn r R P fl := by
  unfold wn
  rw [u0_sh]
set_option maxRecDepth 100000 in
set_option maxHeartbeats 400000 in
theorem u0_19 : (fun k => up r 0 x (19 + 2 * k)) = fun k => r (19 + 2 * k) := by
  funext k
  rw [up_ne (by omega)]
set_option maxRecDepth 100000 in
set_option maxHeartbeats 400000 in
theorem u0_nm (hg : Int32) : nm (up r 0 x) N hg = nm r N hg := by
  have e : ∀ k, up r 0 x (19 + 2 * k) = r (19 + 2 * k) := fun k => up_ne (by omega)
  unfold nm
  simp only [e]
set_option maxRecDepth 100000 in
set_option maxHeartbeats 400000 in
theorem u0_dWt (fl : Bool) : dWt (up r 0 x) R P N fl = dWt r R P N fl := by
  unfold dWt
  rw [u0_wn, u0_sh]
  cases wn r R P fl with
  | none => rfl
  | some p => exact u0_nm _
set_option maxRecDepth 100000 in
set_option maxHeartbeats 400000 in
theorem u0_fs (d y : Int32) : fs (up r 0 x) d F 0 y = fs r d F 0 y := by
  have e : ∀ k, up r 0 x (35 + 2 * k) = r (35 + 2 * k) := fun k => up_ne (by omega)
  have e' : ∀ k, up r 0 x (36 + 2 * k) = r (36 + 2 * k) := fun k => up_ne (by omega)
  unfold fs
  simp only [e, e']
set_option maxRecDepth 100000 in
set_option maxHeartbeats 400000 in
theorem u0_dF (bes : Int32) : dF (up r 0 x) R F bes = dF r R F bes := by
  unfold dF
  rw [u0_fs]
set_option maxRecDepth 100000 in
set_option maxHeartbeats 400000 in
theorem u0_gr : grR (up r 0 x) R P = grR r R P := by
  have e : ∀ k, up r 0 x (10 + 2 * k) = r (10 + 2 * k) := fun k => up_ne (by omega)
  unfold grR
  simp only [e]
set_option maxRecDepth 100000 in
set_option maxHeartbeats 400000 in
theorem u0_dSq (f : Int32) : dSq (up r 0 x) R P f = dSq r R P f := by
  unfold dSq lvm
  rw [u0_gr, up_ne (by omega)]
set_option maxRecDepth 100000 in
set_option maxHeartbeats 400000 in
theorem u0_dSv (f bowl : Int32) (q : Option Nat) : dSv (up r 0 x) R P f bowl q = dSv r R P f bowl q := by
  unfold dSv
  rw [u0_gr, u0_dSq]
set_option maxRecDepth 100000 in
set_option maxHeartbeats 400000 in
theorem u0_dRw (f bowl : Int32) (q : Option Nat) : dRw (up r 0 x) R P f bowl q = dRw r R P f bowl q := by
  unfold dRw
  rw [u0_gr, u0_dSv]
set_option maxRecDepth 100000 in
set_option maxHeartbeats 400000 in
theorem u0_dd : ∀ k, ddR (up r 0 x) R k = ddR r R k := by
  intro k
  induction k with
  | zero => rfl
  | succ k ih =>
    unfold ddR
    rw [ih, up_ne (by omega)]
set_option maxRecDepth 100000 in
set_option maxHeartbeats 400000 in
theorem u0_dEnd (f : Int32) : dEnd (up r 0 x) f R P = dEnd r f R P := by
  unfold dEnd clR
  rw [u0_dd]
set_option maxRecDepth 100000 in
set_option maxHeartbeats 400000 in
theorem u0_day (bes : Int32) (fl : Bool) (bowl : Int32) : dayR (up r 0 x) R P N F bes fl bowl = dayR r R P N F bes fl bowl := by
  unfold dayR
  rw [u0_dEnd, u0_dRw, u0_dF, u0_dWt]
set_option maxRecDepth 100000 in
set_option maxHeartbeats 400000 in
theorem u0_dyN {bowl : Int32} : ∀ (n : Nat) (R : Row), dyN (up r 0 x) P N F bowl n R = dyN r P N F bowl n R := by
  intro n
  induction n with
  | zero => intro R; rfl
  | succ n ih =>
    intro R
    unfold dyN
    rw [u0_day, ih]
set_option maxRecDepth 100000 in
set_option maxHeartbeats 400000 in
theorem u0_TbS {b : Nat} (hb : b ≤ 20) (h : TbS r P N) : TbS (up r 0 (nI b)) P N := by
  obtain ⟨a1, a2, a3, a4, a5, a6, a7, a8⟩ := h
  refine ⟨by rw [up_ne (by omega)]; exact a1, a2, by rw [up_ne (by omega)]; exact a3, a4, ⟨b, hb, up_eq⟩, by rw [up_ne (by omega)]; exact a6, fun p hp => by rw [up_ne (by omega)]; exact a7 p hp, ?_⟩
  obtain ⟨k, hk, ek⟩ := a8
  exact ⟨k, hk, by rw [up_ne (by omega)]; exact ek⟩
-- the dead stay dead
set_option maxRecDepth 100000 in
set_option maxHeartbeats 400000 in
theorem dd_day (hP5 : P ≤ 5) {bes bowl : Int32} {fl : Bool} {i : Nat} (hi : i < 32) (h : bt (R 10) i = true) : bt (dayR r R P N F bes fl bowl 10) i = true := by
  unfold dayR
  rw [dEnd_10 hP5, ddR_in hi P (by omega), dRw_hi hP5 (by omega) (by omega), h, Bool.true_or]
set_option maxRecDepth 100000 in
set_option maxHeartbeats 400000 in
theorem dd_mono (hP5 : P ≤ 5) {bowl : Int32} {i : Nat} (hi : i < 32) : ∀ (n : Nat) (R : Row), bt (R 10) i = true → bt (dyN r P N F bowl n R 10) i = true := by
  intro n
  induction n with
  | zero => intro R h; exact h
  | succ n ih => intro R h; exact ih _ (dd_day hP5 hi h)
set_option maxRecDepth 100000 in
set_option maxHeartbeats 400000 in
theorem dyN_add {bowl : Int32} (m : Nat) : ∀ (k : Nat) (R : Row), dyN r P N F bowl (k + m) R = dyN r P N F bowl m (dyN r P N F bowl k R) := by
  intro k
  induction k with
  | zero => intro R; rw [Nat.zero_add]; rfl
  | succ k ih =>
    intro R
    rw [show k + 1 + m = (k + m) + 1 by omega]
    exact ih _
set_option maxRecDepth 100000 in
set_option maxHeartbeats 400000 in
theorem dd_mid (hP5 : P ≤ 5) {bowl : Int32} {k n : Nat} (hk : k ≤ n) (h : dyN r P N F bowl n R 10 = R 10) : dyN r P N F bowl k R 10 = R 10 := by
  refine b_ext (fun i hi => ?_)
  have a := dd_mono (r := r) (N := N) (F := F) (bowl := bowl) hP5 hi k R
  have b := dd_mono (r := r) (N := N) (F := F) (bowl := bowl) hP5 hi (n - k) (dyN r P N F bowl k R)
  rw [← dyN_add, show k + (n - k) = n by omega, h] at b
  cases e : bt (R 10) i with
  | true => exact a e
  | false =>
    cases e2 : bt (dyN r P N F bowl k R 10) i with
    | false => rfl
    | true => rw [b e2] at e; cases e
end UP0
def kp (r : Row) (P N F : Nat) (R : Row) (n b : Nat) : Bool := decide (dyN r P N F (nI b) n R 10 = R 10)
def bF (k : Nat → Bool) : Nat → Nat → Option Nat
  | 0, _ => none
  | m + 1, b => if k b = true then some b else bF k m (b + 1)
set_option maxRecDepth 100000 in
set_option maxHeartbeats 400000 in
theorem kp_ag {r q R Q : Row} {P N F n b : Nat} (hr : agT r q P N F) (h : agR R Q P N) (hP5 : P ≤ 5) : kp r P N F R n b = kp q P N F Q n b := by
  unfold kp
  rw [(dyN_ag hr h hP5 n).2.1 10 (by omega) (by omega), h.2.1 10 (by omega) (by omega)]
section Q12
variable {S S1 : Mem} {J : MeJ} {T : Nat → Nat} {t a w P N F U E D : Nat} {ht : Bool}
set_option maxRecDepth 100000 in
set_option maxHeartbeats 400000 in
theorem l_keep (b1 : tlA (T 0)) (b2 : 56 ≤ T 0) (hT : TbS (S (T 0)) P N) (hF : S (T 0) 5 = nI F) (hF8 : F ≤ 8) {b : Nat} (hb : b ≤ 20) {R : Row} (hI : Inv R P N D) {n : Nat} (hn : n ≤ 60) (hD : D + 61 ≤ 3000) (hR : S 139 10 = R 10) : ∀ (m k f : Nat) (S1 : Mem), k + m = n → m < f → fr S S1 [7, 8, 12, 15, 16] → crs S1 (S (T 0)) P N F (nI b) R k → ∃ S', lX10_bowlKeepsAll_13 f 0 (nI b) (nI n) (nI k) (hp S1 J T) = some (bI (kp (S (T 0)) P N F R n b), hp S' J T) ∧ fr S S' [7, 8, 12, 15, 16] := by
  have hP5 := hT.2.1
  have n11' : (nI 1 = 1) = True := n11
  intro m
  induction m with
  | zero =>
    intro k f S1 hk hf h1 h2
    obtain ⟨f, rfl⟩ : ∃ g, f = g + 1 := ⟨f - 1, by omega⟩
    obtain rfl : k = n := by omega
    have e139 : S1 139 = S 139 := h1 139 (by decide)
    have e8 := h2.1
    refine ⟨S1, ?_, h1⟩
    unfold lX10_bowlKeepsAll_13 kp
    by_cases hd : dyN (S (T 0)) P N F (nI b) k R 10 = R 10
    · rw [decide_eq_true hd]
      simp (disch := omega) only [gX10_bowlKeepsAll, fX10_bowlKeepsAll_0, fX10_bowlKeepsAll_8, fX10_bowlKeepsAll_11, fX10_bowlKeepsAll_13, fX10_bowlKeepsAll_18, fX10_bowlKeepsAll_38, fX10_bowlKeepsAll_47, fX10_bowlKeepsAll_50, fX10_bowlKeepsAll_56, fX10_bowlKeepsAll_76, fX10_bowlKeepsAll_80, fX10_bowlKeepsAll_81, lt_f1, lt_f8, co_isO, kI_0, co_f0, pl_g3 plA_8, pl_g3 plA_139, lt_f9, kI_1, Option.bind_some, n35, n9, n19, n51, n59, nI_add, ix2, ix8, ix22, ix5, ↓reduceIte, co_f0, lt_eq, Nat.lt_irrefl, e8, e139, hR, hd, bI_t, n1_0, n11', false_or, if_true]
    · rw [decide_eq_false hd]
      simp (disch := omega) only [gX10_bowlKeepsAll, fX10_bowlKeepsAll_0, fX10_bowlKeepsAll_8, fX10_bowlKeepsAll_11, fX10_bowlKeepsAll_13, fX10_bowlKeepsAll_18, fX10_bowlKeepsAll_38, fX10_bowlKeepsAll_47, fX10_bowlKeepsAll_50, fX10_bowlKeepsAll_56, fX10_bowlKeepsAll_76, fX10_bowlKeepsAll_80, fX10_bowlKeepsAll_81, lt_f1, lt_f8, co_isO, kI_0, co_f0, pl_g3 plA_8, pl_g3 plA_139, lt_f9, kI_1, Option.bind_some, n35, n9, n19, n51, n59, nI_add, ix2, ix8, ix22, ix5, ↓reduceIte, co_f0, lt_eq, Nat.lt_irrefl, e8, e139, hR, hd, bI_f, n0_0, true_or, if_true]
  | succ m ih =>
    intro k f S1 hk hf h1 h2
    obtain ⟨f, rfl⟩ : ∃ g, f = g + 1 := ⟨f - 1, by omega⟩
    have e139 : S1 139 = S 139 := h1 139 (by decide)
    have et : S1 (T 0) = S (T 0) := h1 (T 0) (by simp; omega)
    have e8 := h2.1
    by_cases hd : dyN (S (T 0)) P N F (nI b) k R 10 = R 10
    · obtain ⟨S2, g1, g2, g3⟩ := crs_s (S := S1) (J := J) (T := T) b1 b2 (by rw [et]; exact hT) (by rw [et]; exact hF) hF8 (bowl := nI b) ⟨b, hb, rfl⟩ hI (n := k) (by omega) (by rw [et]; exact h2)
      rw [et] at g2
      obtain ⟨S3, k1, k2⟩ := ih (k + 1) f S2 (by omega) (by omega) (fr_tr h1 g3) g2
      refine ⟨S3, ?_, k2⟩
      rw [← k1]
      conv => lhs; unfold lX10_bowlKeepsAll_13
      simp (disch := omega) only [gX10_bowlKeepsAll, fX10_bowlKeepsAll_0, fX10_bowlKeepsAll_8, fX10_bowlKeepsAll_11, fX10_bowlKeepsAll_13, fX10_bowlKeepsAll_18, fX10_bowlKeepsAll_38, fX10_bowlKeepsAll_47, fX10_bowlKeepsAll_50, fX10_bowlKeepsAll_56, fX10_bowlKeepsAll_76, fX10_bowlKeepsAll_80, fX10_bowlKeepsAll_81, lt_f1, lt_f8, co_isO, kI_0, co_f0, pl_g3 plA_8, pl_g3 plA_139, lt_f9, kI_1, Option.bind_some, n35, n9, n19, n51, n59, nI_add, ix2, ix8, ix22, ix5, ↓reduceIte, co_f0, lt_eq, show k < n by omega, e8, e139, hR, hd, g1]
    · have hk0 : kp (S (T 0)) P N F R n b = false := decide_eq_false (fun z => hd (dd_mid hP5 (by omega) z))
      rw [hk0]
      refine ⟨S1, ?_, h1⟩
      unfold lX10_bowlKeepsAll_13
      simp (disch := omega) only [gX10_bowlKeepsAll, fX10_bowlKeepsAll_0, fX10_bowlKeepsAll_8, fX10_bowlKeepsAll_11, fX10_bowlKeepsAll_13, fX10_bowlKeepsAll_18, fX10_bowlKeepsAll_38, fX10_bowlKeepsAll_47, fX10_bowlKeepsAll_50, fX10_bowlKeepsAll_56, fX10_bowlKeepsAll_76, fX10_bowlKeepsAll_80, fX10_bowlKeepsAll_81, lt_f1, lt_f8, co_isO, kI_0, co_f0, pl_g3 plA_8, pl_g3 plA_139, lt_f9, kI_1, Option.bind_some, n35, n9, n19, n51, n59, nI_add, ix2, ix8, ix22, ix5, ↓reduceIte, co_f0, lt_eq, show k < n by omega, e8, e139, hR, hd, bI_f, n0_0, true_or, if_true]
set_option maxRecDepth 100000 in
set_option maxHeartbeats 400000 in
theorem c_keep (b1 : tlA (T 0)) (b2 : 56 ≤ T 0) (hy : Yes S (T 0) P N F U E) (h0t : S1 (T 0) = S (T 0)) (h0n : S1 139 = S 139) {b n : Nat} (hb : b ≤ 20) (hn : n ≤ 60) : ∃ S', gX10_bowlKeepsAll 0 (nI b) (nI n) (hp S1 J T) = some (bI (kp (S 170) P N F (S 174) n b), hp S' J T) ∧ fr S1 S' [7, 8, 12, 15, 16] := by
  obtain ⟨y1, y2, y3, y4, y5, y6, y7, y8⟩ := hy
  have hP5 := y1.1.2.1
  have hR : agR (cpR (S1 139) (S1 8) 22) (S 174) P N := agR_cp hP5 y1.1.2.2.2.1 (by rw [h0n]; exact y5)
  obtain ⟨S2, g1, g2, g3, g4, g5, g6, g7⟩ := c_start (S := S1) (J := J) (T := T) plA_139 (by omega) (by omega) (by omega) (by omega)
  have hcr : crs S2 (S1 (T 0)) P N F (nI b) (cpR (S1 139) (S1 8) 22) 0 := ⟨g2, (fun i hi => by omega), (fun p hp => g3 p (by omega)), (fun p hp => g4 p (by omega)), g5, g6⟩
  obtain ⟨S', k1, k2⟩ := l_keep (S := S1) (J := J) (T := T) b1 b2 (by rw [h0t]; exact TbS_ag y2 y1.1) (by rw [h0t, y2.1 5 (by omega)]; exact y1.2.2.1) y1.2.2.2.1 hb (Inv_ag hR y6) hn (by omega) (show S1 139 10 = cpR (S1 139) (S1 8) 22 10 from (if_pos (by omega)).symm) n 0 FU S2 (by omega) (FU_lt (by omega)) g7 hcr
  refine ⟨S', ?_, k2⟩
  rw [← kp_ag y2 hR hP5, ← h0t, ← k1]
  simp (disch := omega) only [gX10_bowlKeepsAll, fX10_bowlKeepsAll_0, fX10_bowlKeepsAll_8, fX10_bowlKeepsAll_11, lt_f1, lt_f8, co_isO, g1, Option.bind_some, kI_0]
end Q12

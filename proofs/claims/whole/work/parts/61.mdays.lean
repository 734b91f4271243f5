-- DAYS TO COME OF THE REFERENCE
section MD
variable {S : Mem} {J : MeJ} {T : Nat → Nat} {w : Nat}
-- a day in a row of the reference
set_option maxRecDepth 100000 in
set_option maxHeartbeats 400000 in
theorem m_day (hw : rwA w) (h8 : w ≠ 178) (h9 : w ≠ 179) (h7 : w ≠ 167) (h0 : w ≠ 170) {P N F D : Nat} (hT : TbS (S 170) P N) (hF : S 170 5 = nI F) (hF8 : F ≤ 8) (hI : Inv (S w) P N D) (hD : D ≤ 3000) {bes : Int32} {fl : Bool} : ∃ S', gX11_dayOn 167 w bes (bI fl) (hp S J T) = some (hp S' J T) ∧ S' w = dayR (S 170) (S w) P N F bes fl (S 170 0) ∧ S' 167 = up (up (S 167) 25 (oi (wn (S 170) (S w) P fl))) 26 (oi (dWt (S 170) (S w) P N fl)) ∧ (∀ p, p < 5 → S' 178 p = nI (dayE (S 170) (S w) P N F bes fl (S 170 0) p)) ∧ fr S S' [167, w, 178, 179] := by
  obtain ⟨O, hO⟩ := c_dayOn (S := S) (J := J) (T := T) hw h8 h9 h7 h0 hT.1 hT.2.1 hT.2.2.1 hT.2.2.2.1 hF hF8 (bes := bes) (fl := fl) hT.2.2.2.2.1 (inv_Sml hT hI) (inv_Fsm hI (by omega)) hT.2.2.2.2.2.2.2
  refine ⟨_, hO, ?_, ?_, fun p hp => ?_, ?_⟩
  · rw [stR_ne h8, stR_eq]
  · rw [stR_ne (by omega), stR_ne h7.symm, stR_ne (by omega), stR_eq]
  · rw [stR_eq]; exact aE_lo hp
  · exact fr_st (fr_st (fr_st (fr_st (fr_rf S _) (by simp)) (by simp)) (by simp)) (by simp)
-- behind n days
def mcr (S : Mem) (r : Row) (P N F : Nat) (R : Row) (n : Nat) : Prop :=
  S 175 = dyN r P N F (r 0) n R ∧ (∀ i, n = i + 1 → S 167 25 = oi (wn r (dyN r P N F (r 0) i R) P false) ∧ S 167 26 = oi (dWt r (dyN r P N F (r 0) i R) P N false) ∧ (∀ p, p < 5 → S 178 p = nI (dayE r (dyN r P N F (r 0) i R) P N F (nI 0) false (r 0) p)))
def mfr (S S' : Mem) : Prop := fr S S' [167, 175, 178, 179] ∧ ∀ j, j ≠ 25 → j ≠ 26 → S' 167 j = S 167 j
set_option maxRecDepth 100000 in
set_option maxHeartbeats 400000 in
theorem mfr_tr {S S' S'' : Mem} (h : mfr S S') (h' : mfr S' S'') : mfr S S'' := ⟨fr_tr h.1 h'.1, fun j a b => (h'.2 j a b).trans (h.2 j a b)⟩
set_option maxRecDepth 100000 in
set_option maxHeartbeats 400000 in
theorem mcr_s {P N F D n : Nat} {r : Row} (hr : S 170 = r) (hT : TbS r P N) (hF : r 5 = nI F) (hF8 : F ≤ 8) {R : Row} (hI : Inv R P N D) (hD : D + n ≤ 3000) (h : mcr S r P N F R n) : ∃ S', gX11_dayOn 167 175 (nI 0) (nI 0) (hp S J T) = some (hp S' J T) ∧ mcr S' r P N F R (n + 1) ∧ mfr S S' := by
  subst hr
  obtain ⟨h1, h2⟩ := h
  have hi := dyN_inv (F := F) hT hI hT.2.2.2.2.1 n (by omega)
  obtain ⟨S', g0, g1, g2, g3, g4⟩ := m_day (S := S) (J := J) (T := T) (w := 175) (bes := nI 0) (fl := false) rwA_175 (by omega) (by omega) (by omega) (by omega) hT hF hF8 (D := D + n) (by rw [h1]; exact hi) (by omega)
  rw [h1] at g1 g2 g3
  refine ⟨S', g0, ⟨?_, fun i hi => ?_⟩, g4, fun j a b => ?_⟩
  · rw [g1, dyN_s]
  · obtain rfl : i = n := by omega
    refine ⟨?_, ?_, g3⟩
    · rw [g2, up_ne (by omega), up_eq]
    · rw [g2, up_eq]
  · rw [g2, up_ne b, up_ne a]
set_option maxRecDepth 100000 in
set_option maxHeartbeats 400000 in
theorem l_daysOn {P N F D : Nat} {r : Row} (hT : TbS r P N) (hF : r 5 = nI F) (hF8 : F ≤ 8) {R : Row} (hI : Inv R P N D) {M : Nat} (hD : D + M ≤ 3000) : ∀ (n k f : Nat) (S1 : Mem), k + n = M → n < f → S1 170 = r → mcr S1 r P N F R k → ∃ S', lX11_daysOn_18 f 167 (nI M) (nI k) (hp S1 J T) = some (hp S' J T) ∧ mcr S' r P N F R M ∧ mfr S1 S' := by
  intro n
  induction n with
  | zero =>
    intro k f S1 hk hf h1 h2
    obtain ⟨f, rfl⟩ : ∃ g, f = g + 1 := ⟨f - 1, by omega⟩
    obtain rfl : k = M := by omega
    refine ⟨S1, ?_, h2, fr_rf _ _, fun _ _ _ => rfl⟩
    unfold lX11_daysOn_18
    simp (disch := omega) only [fX11_daysOn_18, fX11_daysOn_39, lt_eq, Nat.lt_irrefl, ↓reduceIte]
  | succ n ih =>
    intro k f S1 hk hf h1 h2
    obtain ⟨f, rfl⟩ : ∃ g, f = g + 1 := ⟨f - 1, by omega⟩
    obtain ⟨S2, g1, g2, g3⟩ := mcr_s (S := S1) (J := J) (T := T) h1 hT hF hF8 hI (n := k) (by omega) h2
    obtain ⟨S3, k1, k2, k3⟩ := ih (k + 1) f S2 (by omega) (by omega) ((g3.1 170 (by simp)).trans h1) g2
    refine ⟨S3, ?_, k2, mfr_tr g3 k3⟩
    unfold lX11_daysOn_18
    simp (disch := omega) only [fX11_daysOn_18, fX11_daysOn_23, fX11_daysOn_30, fX11_daysOn_33, lt_eq, show k < M by omega, ↓reduceIte, mo_f20, mo_isO, Option.bind_some, kI_0, g1, kI_1, nI_add]
    exact k1
set_option maxRecDepth 100000 in
set_option maxHeartbeats 400000 in
theorem c_daysOn {P N F D : Nat} (hT : TbS (S 170) P N) (hF : S 170 5 = nI F) (hF8 : F ≤ 8) {R : Row} (hI : Inv R P N D) {n : Nat} (hD : D + n ≤ 3000) (hR : cpR (S 174) (S 175) 22 = R) : ∃ S', gX11_daysOn 167 (nI n) (hp S J T) = some (hp S' J T) ∧ mcr S' (S 170) P N F R n ∧ mfr S S' := by
  have h0 : mcr (stR (stR S 175 R) 167 (up (up (S 167) 25 (oi none)) 26 (oi none))) (S 170) P N F R 0 := by
    refine ⟨?_, fun i hi => by omega⟩
    rw [stR_ne (by omega), stR_eq]
    rfl
  obtain ⟨S', k1, k2, k3⟩ := l_daysOn (J := J) (T := T) hT hF hF8 hI hD n 0 FU (stR (stR S 175 R) 167 (up (up (S 167) 25 (oi none)) 26 (oi none))) (by omega) (FU_lt (by omega)) (by rw [stR_ne (by omega), stR_ne (by omega)]) h0
  refine ⟨S', ?_, k2, mfr_tr ⟨fr_st (fr_st (fr_rf S _) (by simp)) (by simp), fun j a b => by rw [stR_eq, up_ne b, up_ne a]⟩ k3⟩
  simp (disch := omega) only [gX11_daysOn, fX11_daysOn_0, fX11_daysOn_1, fX11_daysOn_4, mo_isO, Option.bind_some, c_begin, hR, mo_p25, mo_p26, kB_o, kI_0, stS_R, stR_eq, stR_stR, stR_ne (show 167 ≠ 175 by omega)]
  exact k1
end MD
-- the sums agree
section SUMS
variable {r q R Q : Row} {P N F : Nat} {bowl : Int32}
set_option maxRecDepth 100000 in
set_option maxHeartbeats 400000 in
theorem aN_ag (hr : agT r q P N F) (h : agR R Q P N) (hP5 : P ≤ 5) (p : Nat) : ∀ n, aN r P N F bowl R n p = aN q P N F bowl Q n p := by
  intro n
  induction n with
  | zero => rfl
  | succ n ih => unfold aN; rw [ih, (ag_day hr (dyN_ag hr h hP5 n) hP5 _ _ _).2]
set_option maxRecDepth 100000 in
set_option maxHeartbeats 400000 in
theorem bN_ag (hr : agT r q P N F) (h : agR R Q P N) (hP5 : P ≤ 5) (p : Nat) : ∀ n, bN r P N F bowl R n p = bN q P N F bowl Q n p := by
  intro n
  induction n with
  | zero => rfl
  | succ n ih => unfold bN; rw [ih, ag_wn hr (dyN_ag hr h hP5 n)]
set_option maxRecDepth 100000 in
set_option maxHeartbeats 400000 in
theorem dN_ag (hr : agT r q P N F) (h : agR R Q P N) (hP5 : P ≤ 5) : ∀ n, dN' r P N F bowl R n = dN' q P N F bowl Q n := by
  intro n
  induction n with
  | zero => rfl
  | succ n ih => unfold dN'; rw [ih, ag_dWt hr (dyN_ag hr h hP5 n)]
set_option maxRecDepth 100000 in
set_option maxHeartbeats 400000 in
theorem wN_ag (hr : agT r q P N F) (h : agR R Q P N) (hP5 : P ≤ 5) : ∀ n, wN r P N F bowl R n = wN q P N F bowl Q n := by
  intro n
  induction n with
  | zero => rfl
  | succ n ih =>
    unfold wN
    rw [ih, ag_dWt hr (dyN_ag hr h hP5 n), ag_wo (dyN_ag hr h hP5 n) dWt_lt]
end SUMS

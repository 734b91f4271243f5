-- A DAY OF THE CLASS
set_option maxRecDepth 100000 in
set_option maxHeartbeats 4000000 in
theorem srv_le (w : Nat) (F : List Nat) : ∀ (n : Nat) (s : Sv), (∀ q, (srv w F n s).1 q ≤ s.1 q) ∧ (srv w F n s).2.1 ≤ s.2.1 := by
  intro n
  induction n with
  | zero => intro s; exact ⟨fun q => Nat.le_refl _, Nat.le_refl _⟩
  | succ n ih =>
    intro s
    unfold srv
    split
    · have h1 := rnd_le w F (s.1, s.2.1, s.2.2.1, false)
      have h2 := ih (rnd w F (s.1, s.2.1, s.2.2.1, false))
      exact ⟨fun q => Nat.le_trans (h2.1 q) (h1.1 q), Nat.le_trans h2.2 h1.2⟩
    · exact ⟨fun q => Nat.le_refl _, Nat.le_refl _⟩
set_option maxRecDepth 100000 in
set_option maxHeartbeats 4000000 in
theorem flR_mE (O : Row) : flR O 2 (nI 0) 5 = mE O (fun _ => 0) := by
  funext j
  unfold flR mE
  rfl
set_option maxRecDepth 100000 in
set_option maxHeartbeats 4000000 in
theorem pE_self {P : Nat} {R : Row} {H : Nat → Nat} {l : Nat} (h1 : ∀ p, p < P → R p = nI (H p)) (h2 : R 12 = nI l) : pE P R H l = R := by
  funext j
  unfold pE
  by_cases hj : j < P
  · rw [if_pos hj, h1 j hj]
  · rw [if_neg hj]
    by_cases h12 : j = 12
    · rw [if_pos h12, h12, h2]
    · rw [if_neg h12]
section HOLD
variable {S : Mem} {J : MeJ} {T : Nat → Nat} {a m t : Nat}
set_option maxRecDepth 100000 in
set_option maxHeartbeats 4000000 in
theorem l_serve (hm : mlA m) (ha : plA a) (hne : a ≠ m) {P w : Nat} (hP5 : P ≤ 5) (hw : w < 5000) {O R : Row} {F : List Nat} (hF : ∀ p ∈ F, p < P) (hO : ∀ i p, F[i]? = some p → O (7 + i) = nI p) (hl5 : F.length ≤ 5) : ∀ (n k f : Nat) (s : Sv), k + n = 100 → n < f → (∀ p, p < P → s.1 p < 5000) → s.2.1 < 5000 → lX6_serve_23 f m a (nI F.length) (nI w) (bI s.2.2.2) (nI k) (hp (stR (stR S a (pE P R s.1 s.2.1)) m (mE O s.2.2.1)) J T) = some (hp (stR (stR S a (pE P R (srv w F n s).1 (srv w F n s).2.1)) m (mE O (srv w F n s).2.2.1)) J T) := by
  intro n
  induction n with
  | zero =>
    intro k f s hk hf hs hl
    obtain ⟨f, rfl⟩ : ∃ g, f = g + 1 := ⟨f - 1, by omega⟩
    obtain rfl : k = 100 := by omega
    unfold lX6_serve_23
    simp (disch := omega) only [gX6_serve, fX6_serve_0, fX6_serve_5, fX6_serve_8, fX6_serve_13, fX6_serve_16, fX6_serve_23, fX6_serve_30, fX6_serve_35, fX6_serve_41, fX6_serve_47, fX6_serve_54, fX6_serve_73, fX6_serve_89, fX6_serve_92, fX6_serve_117, fX6_serve_123, fX6_serve_129, ml_f2 hm, ml_r2 hm, ml_w2 hm, kI_0, ml_g1 hm, pl_isO ha, kI_1, kB_99, pl_g5 ha, ml_f3 hm, ml_r3 hm, ml_w3 hm, pl_f0 ha, pl_r0 ha, pl_w0 ha, pl_p5 ha, Option.bind_some, n35, n9, n19, n51, n59, nI_add, ix2, ix8, ix22, ix5, ↓reduceIte, lt_eq, show 99 < 100 by omega]
    rfl
  | succ n ih =>
    intro k f s hk hf hs hl
    obtain ⟨f, rfl⟩ : ∃ g, f = g + 1 := ⟨f - 1, by omega⟩
    unfold lX6_serve_23 srv
    cases hg : s.2.2.2 with
    | false =>
      simp (disch := omega) only [gX6_serve, fX6_serve_0, fX6_serve_5, fX6_serve_8, fX6_serve_13, fX6_serve_16, fX6_serve_23, fX6_serve_30, fX6_serve_35, fX6_serve_41, fX6_serve_47, fX6_serve_54, fX6_serve_73, fX6_serve_89, fX6_serve_92, fX6_serve_117, fX6_serve_123, fX6_serve_129, ml_f2 hm, ml_r2 hm, ml_w2 hm, kI_0, ml_g1 hm, pl_isO ha, kI_1, kB_99, pl_g5 ha, ml_f3 hm, ml_r3 hm, ml_w3 hm, pl_f0 ha, pl_r0 ha, pl_w0 ha, pl_p5 ha, Option.bind_some, n35, n9, n19, n51, n59, nI_add, ix2, ix8, ix22, ix5, ↓reduceIte, lt_eq, show ¬ 99 < k by omega, bI_f, n0_0, Bool.false_eq_true]
    | true =>
      simp (disch := omega) only [gX6_serve, fX6_serve_0, fX6_serve_5, fX6_serve_8, fX6_serve_13, fX6_serve_16, fX6_serve_23, fX6_serve_30, fX6_serve_35, fX6_serve_41, fX6_serve_47, fX6_serve_54, fX6_serve_73, fX6_serve_89, fX6_serve_92, fX6_serve_117, fX6_serve_123, fX6_serve_129, ml_f2 hm, ml_r2 hm, ml_w2 hm, kI_0, ml_g1 hm, pl_isO ha, kI_1, kB_99, pl_g5 ha, ml_f3 hm, ml_r3 hm, ml_w3 hm, pl_f0 ha, pl_r0 ha, pl_w0 ha, pl_p5 ha, Option.bind_some, n35, n9, n19, n51, n59, nI_add, ix2, ix8, ix22, ix5, ↓reduceIte, lt_eq, show ¬ 99 < k by omega, bI_t, n1_0]
      have h1 := l_serveIn (S := S) (J := J) (T := T) (R := R) (rd := nI k) hm ha hne hP5 hw hF hO hl5 (lX6_serve_23 f) F 0 FU (s.1, s.2.1, s.2.2.1, false) rfl (FU_lt (by omega)) (by omega) hs hl
      rw [bI_f] at h1
      dsimp only at h1
      rw [h1, nI_add]
      have h2 := rnd_le w F (s.1, s.2.1, s.2.2.1, false)
      exact ih (k + 1) f _ (by omega) (by omega) (fun p hp => Nat.lt_of_le_of_lt (h2.1 p) (hs p hp)) (Nat.lt_of_le_of_lt h2.2 hl)
set_option maxRecDepth 100000 in
set_option maxHeartbeats 4000000 in
theorem c_serve (hm : mlA m) (ha : plA a) (hne : a ≠ m) {P w l : Nat} (hP5 : P ≤ 5) {H : Nat → Nat} {q : Option Nat} (hq : ∀ k, q = some k → k < 8) (hwhat : S m 1 = oi q) (hw : w < 5000) (hwo : wo (S a) q = nI w) (hH : ∀ p, p < P → S a p = nI (H p)) (hH5 : ∀ p, p < P → H p < 5000) (hl : S a 12 = nI l) (hl5 : l < 5000) {F : List Nat} (hF : ∀ p ∈ F, p < P) (hO : ∀ i p, F[i]? = some p → S m (7 + i) = nI p) (hFl : F.length ≤ 5) : gX6_serve m a (nI F.length) (hp S J T) = some (hp (stR (stR S a (pE P (S a) (srv w F 100 (H, l, fun _ => 0, true)).1 (srv w F 100 (H, l, fun _ => 0, true)).2.1)) m (mE (S m) (srv w F 100 (H, l, fun _ => 0, true)).2.2.1)) J T) := by
  have e1 : mE (S m) (fun _ => 0) 1 = S m 1 := if_neg (by omega)
  have h0 : hp (stR S m (mE (S m) (fun _ => 0))) J T = hp (stR (stR S a (pE P (S a) H l)) m (mE (S m) (fun _ => 0))) J T := by rw [pE_self hH hl, stR_self]
  have h1 := l_serve (S := S) (J := J) (T := T) (O := S m) (R := S a) hm ha hne hP5 hw hF hO hFl 100 0 FU (H, l, fun _ => 0, true) (by omega) (FU_lt (by omega)) hH5 hl5
  rw [bI_t] at h1
  dsimp only at h1
  simp (disch := omega) only [gX6_serve, fX6_serve_0, fX6_serve_5, fX6_serve_8, fX6_serve_13, fX6_serve_16, fX6_serve_23, fX6_serve_30, fX6_serve_35, fX6_serve_41, fX6_serve_47, fX6_serve_54, fX6_serve_73, fX6_serve_89, fX6_serve_92, fX6_serve_117, fX6_serve_123, fX6_serve_129, ml_f2 hm, ml_r2 hm, ml_w2 hm, kI_0, ml_g1 hm, pl_isO ha, kI_1, kB_99, pl_g5 ha, ml_f3 hm, ml_r3 hm, ml_w3 hm, pl_f0 ha, pl_r0 ha, pl_w0 ha, pl_p5 ha, Option.bind_some, n35, n9, n19, n51, n59, nI_add, ix2, ix8, ix22, ix5, ↓reduceIte, c_fill hm.2.1 (show 5 < 100 by omega), flR_mE, stR_eq, e1, hwhat, c_worthOf ha hq, stR_ne hne, hwo]
  rw [h0]
  exact h1
-- the day as numbers
def lvm (r R : Row) : Int32 := ((nI 1 <<< (r 3 &&& 31)) - nI 1) &&& (R 10 ^^^ m1)
def cN2 (x : Int32) : Nat := x.toNatClampNeg
def dF (r R : Row) (F : Nat) (bes : Int32) : Int32 := fs r (R 13 + nI 1) F 0 (R 11) ||| bes
def dWt (r R : Row) (P N : Nat) (fl : Bool) : Option Nat := match wn r R P fl with
  | none => none
  | some p => nm r N (sh r R p)
def dPo (R : Row) (bowl : Int32) : Int32 := if R 12 + bowl < nI 99 then R 12 + bowl else nI 99
def dSq (r R : Row) (P : Nat) (f : Int32) : List Nat := sq (grR r R P) (bt (lvm r (grR r R P) &&& (f ^^^ m1))) P
def dSv (r R : Row) (P : Nat) (f bowl : Int32) (q : Option Nat) : Sv := srv (cN2 (wo R q)) (dSq r R P f) 100 (fun p => cN2 (grR r R P p), cN2 (dPo R bowl), fun _ => 0, true)
def dRw (r R : Row) (P : Nat) (f bowl : Int32) (q : Option Nat) : Row := pE P (grR r R P) (dSv r R P f bowl q).1 (dSv r R P f bowl q).2.1
def dEnd (r : Row) (f : Int32) (R : Row) (P : Nat) : Row := up (up (clR r f R P) 11 (nI 0)) 13 (R 13 + nI 1)
def dayR (r R : Row) (P N F : Nat) (bes : Int32) (fl : Bool) (bowl : Int32) : Row := dEnd r (dF r R F bes) (dRw r R P (dF r R F bes) bowl (dWt r R P N fl)) P
def dayE (r R : Row) (P N F : Nat) (bes : Int32) (fl : Bool) (bowl : Int32) : Nat → Nat := (dSv r R P (dF r R F bes) bowl (dWt r R P N fl)).2.2.1
def sm (x : Int32) (B : Nat) : Prop := ∃ n, n ≤ B ∧ x = nI n
set_option maxRecDepth 100000 in
set_option maxHeartbeats 4000000 in
theorem sm_cN {x : Int32} {B : Nat} (h : sm x B) (hB : B < 5000) : x = nI (cN2 x) ∧ cN2 x ≤ B := by
  obtain ⟨n, hn, rfl⟩ := h
  have e : cN2 (nI n) = n := cl_lt (by omega)
  rw [e]
  exact ⟨rfl, hn⟩
-- what is small: hungers, portions, worths, needs
def Sml (r R : Row) (P N : Nat) : Prop := (∀ p, p < P → sm (R p) 4000) ∧ (∀ p, p < P → sm (r (10 + 2 * p)) 100) ∧ sm (R 12) 99 ∧ (∀ k, k < N → sm (R (14 + k)) 100)
set_option maxRecDepth 100000 in
set_option maxHeartbeats 4000000 in
theorem grR_sm {r R : Row} {P N : Nat} (h : Sml r R P N) : ∀ p, p < P → sm (grR r R P p) 4100 := by
  intro p hp
  obtain ⟨n, hn, en⟩ := h.1 p hp
  obtain ⟨k, hk, ek⟩ := h.2.1 p hp
  unfold grR
  split
  · exact ⟨n + k, by omega, by rw [en, ek, nI_add]⟩
  · exact ⟨n, by omega, en⟩
set_option maxRecDepth 100000 in
set_option maxHeartbeats 4000000 in
theorem dPo_sm {r R : Row} {P N : Nat} {bowl : Int32} (h : Sml r R P N) (hb : sm bowl 20) : sm (dPo R bowl) 99 := by
  obtain ⟨n, hn, en⟩ := h.2.2.1
  obtain ⟨k, hk, ek⟩ := hb
  unfold dPo
  rw [en, ek, nI_add]
  split
  · rename_i z
    exact ⟨n + k, by have := (lt_iff (by omega) (by omega)).mp z; omega, rfl⟩
  · exact ⟨99, by omega, rfl⟩
set_option maxRecDepth 100000 in
set_option maxHeartbeats 4000000 in
theorem nm_lt {r : Row} {N : Nat} {hg : Int32} : ∀ k, nm r N hg = some k → k < N := by
  intro k hk
  have := am_lt (n := N) (k := 0) (b := none) (fun j h => by cases h) k hk
  omega
set_option maxRecDepth 100000 in
set_option maxHeartbeats 4000000 in
theorem wn_lt {r R : Row} {P : Nat} {fl : Bool} : ∀ p, wn r R P fl = some p → p < P := by
  intro p hp
  have h0 : (∀ j, (none : Option Nat) = some j → j < 0) ∧ (∀ j, (none : Option Nat) = some j → j < 0) := ⟨(fun j h => by cases h), (fun j h => by cases h)⟩
  have h := itr_inv (f := wnS (sh r R) (lv R)) (I := fun k q => (∀ j, q.1 = some j → j < k) ∧ (∀ j, q.2 = some j → j < k)) (N := P) (fun k s _ h => wnS_lt h) P 0 (none, none) (by omega) h0
  unfold wn at hp
  cases e : itr (wnS (sh r R) (lv R)) P 0 (none, none) with
  | mk f g =>
    rw [e] at hp h
    dsimp only at hp h
    split at hp
    · exact h.2 p hp
    · exact h.1 p hp
set_option maxRecDepth 100000 in
set_option maxHeartbeats 4000000 in
theorem dWt_lt {r R : Row} {P N : Nat} {fl : Bool} : ∀ k, dWt r R P N fl = some k → k < N := by
  intro k hk
  unfold dWt at hk
  cases e : wn r R P fl with
  | none => rw [e] at hk; cases hk
  | some p => rw [e] at hk; exact nm_lt k hk
set_option maxRecDepth 100000 in
set_option maxHeartbeats 4000000 in
theorem wo_grR {r R : Row} {P : Nat} (hP : P ≤ 5) (q : Option Nat) : wo (grR r R P) q = wo R q := by
  cases q with
  | none => rfl
  | some k => exact grR_ge (by omega)
set_option maxRecDepth 100000 in
set_option maxHeartbeats 4000000 in
theorem wo_sm {r R : Row} {P N : Nat} {q : Option Nat} (h : Sml r R P N) (hq : ∀ k, q = some k → k < N) : sm (wo R q) 100 := by
  cases q with
  | none => exact ⟨0, by omega, rfl⟩
  | some k => exact h.2.2.2 k (hq k rfl)
set_option maxRecDepth 100000 in
set_option maxHeartbeats 4000000 in
theorem c_hold (hm : mlA m) (ha : plA a) (ht : tlA t) (hne : a ≠ m) (hnt : t ≠ m) (hta : t ≠ a) {P N F : Nat} (hP : S t 3 = nI P) (hP5 : P ≤ 5) (hN : S t 4 = nI N) (hN8 : N ≤ 8) (hF : S t 5 = nI F) (hF8 : F ≤ 8) {bes bowl : Int32} {fl : Bool} (hb : sm bowl 20) (hs : Sml (S t) (S a) P N) : ∃ O : Row, gX6_hold m t a bes (bI fl) bowl (hp S J T) = some (hp (stR (stR S a (dayR (S t) (S a) P N F bes fl bowl)) m O) J T) ∧ O 0 = oi (wn (S t) (S a) P fl) ∧ O 1 = oi (dWt (S t) (S a) P N fl) ∧ (∀ p, p < 5 → O (2 + p) = nI (dayE (S t) (S a) P N F bes fl bowl p)) := by
  have hwl : ∀ p, wn (S t) (S a) P fl = some p → p < P := wn_lt
  have hql : ∀ k, dWt (S t) (S a) P N fl = some k → k < N := dWt_lt
  have hPm : ∀ X : Row, stR S m X t 3 = nI P := fun X => by rw [stR_ne hnt]; exact hP
  have hNm : ∀ X : Row, stR S m X t 4 = nI N := fun X => by rw [stR_ne hnt]; exact hN
  -- up to the seats
  have hA : gX6_hold m t a bes (bI fl) bowl (hp S J T) = fX6_hold_67 m t a bowl (dF (S t) (S a) F bes) (lvm (S t) (grR (S t) (S a) P) &&& (dF (S t) (S a) F bes ^^^ m1)) a t m (hp (stR (stR S a (grR (S t) (S a) P)) m (up (up (S m) 0 (oi (wn (S t) (S a) P fl))) 1 (oi (dWt (S t) (S a) P N fl)))) J T) := by
    cases hwho : wn (S t) (S a) P fl with
    | none =>
      have e2 : dWt (S t) (S a) P N fl = none := by unfold dWt; rw [hwho]
      rw [e2]
      simp (disch := omega) only [gX6_hold, fX6_hold_0, fX6_hold_2, fX6_hold_5, fX6_hold_14, fX6_hold_17, fX6_hold_28, fX6_hold_46, fX6_hold_51, fX6_hold_54, fX6_hold_59, fX6_hold_62, pl_isO ha, Option.bind_some, c_fastingNext ha ht hF hF8, c_whoNames ha ht hP hP5, hwho, ml_p0 hm, ml_g0 hm, ml_p1 hm, stS_R, stR_eq, stR_stR, stR_ne hne, stR_ne hnt, up_eq, on_lt, ↓reduceIte, kB_o, c_grow ha ht hta (hPm _) hP5, c_living ha ht, kI_n, stR_cm hne.symm, stR_ne hta, stR_ne hne.symm]
      rfl
    | some p =>
      have hpP := hwl p hwho
      have e2 : dWt (S t) (S a) P N fl = nm (S t) N (sh (S t) (S a) p) := by unfold dWt; rw [hwho]
      rw [e2]
      simp (disch := omega) only [gX6_hold, fX6_hold_0, fX6_hold_2, fX6_hold_5, fX6_hold_14, fX6_hold_17, fX6_hold_33, fX6_hold_40, fX6_hold_43, fX6_hold_46, fX6_hold_51, fX6_hold_54, fX6_hold_59, fX6_hold_62, pl_isO ha, tl_isO ht, Option.bind_some, c_fastingNext ha ht hF hF8, c_whoNames ha ht hP hP5, hwho, ml_p0 hm, ml_g0 hm, ml_p1 hm, stS_R, stR_eq, stR_stR, stR_ne hne, stR_ne hnt, up_eq, oi_some, nI_lt0, ↓reduceIte, c_seenHunger ha ht, c_nameSeen ht (hNm _) hN8, c_grow ha ht hta (hPm _) hP5, c_living ha ht, kI_n, stR_cm hne.symm, stR_ne hta, stR_ne hne.symm]
      rfl
  rw [hA]
  clear hA
  -- the seats
  generalize hM : up (up (S m) 0 (oi (wn (S t) (S a) P fl))) 1 (oi (dWt (S t) (S a) P N fl)) = M0
  have hM0 : M0 0 = oi (wn (S t) (S a) P fl) := by rw [← hM, up_ne (by omega), up_eq]
  have hM1 : M0 1 = oi (dWt (S t) (S a) P N fl) := by rw [← hM, up_eq]
  generalize hG : grR (S t) (S a) P = G
  generalize hf : dF (S t) (S a) F bes = f
  have hGs : ∀ p, p < P → sm (G p) 4100 := by rw [← hG]; exact grR_sm hs
  have hPs : ∀ X Y : Row, stR (stR S a X) m Y t 3 = nI P := fun X Y => by rw [stR_ne hnt, stR_ne hta]; exact hP
  obtain ⟨O, hO, hO1, hO2, hO3, hO4⟩ := c_seat (S := stR (stR S a G) m M0) (J := J) (T := T) hm ha ht hne hnt (hPs _ _) hP5 (e := lvm (S t) G &&& (f ^^^ m1))
  rw [stR_ne hne, stR_eq] at hO hO1 hO3 hO4
  rw [stR_stR] at hO
  have hLs : sq G (bt (lvm (S t) G &&& (f ^^^ m1))) P = dSq (S t) (S a) P f := by unfold dSq; rw [hG]
  rw [hLs] at hO hO1 hO3 hO4
  have hG12 : G 12 = S a 12 := by rw [← hG]; exact grR_ge (by omega)
  have hpo : (if G 12 + bowl < nI 99 then G 12 + bowl else nI 99) = dPo (S a) bowl := by rw [hG12]; rfl
  have hB : fX6_hold_67 m t a bowl f (lvm (S t) G &&& (f ^^^ m1)) a t m (hp (stR (stR S a G) m M0) J T) = fX6_hold_92 t a f (nI (dSq (S t) (S a) P f).length) a m (hp (stR (stR S a (up G 12 (dPo (S a) bowl))) m O) J T) := by
    simp (disch := omega) only [fX6_hold_67, fX6_hold_70, fX6_hold_82, fX6_hold_85, ml_isO hm, Option.bind_some, hO, pl_g5 ha, pl_p5 ha, stR_ne hne, stR_eq, kB_99, stS_R, stR_sw hne, hpo]
  rw [hB]
  -- the portions
  have hP12 := sm_cN (dPo_sm hs hb) (by omega)
  have hwq : sm (wo (S a) (dWt (S t) (S a) P N fl)) 100 := wo_sm hs hql
  have hwq2 := sm_cN hwq (by omega)
  have hwo : wo (up G 12 (dPo (S a) bowl)) (dWt (S t) (S a) P N fl) = wo (S a) (dWt (S t) (S a) P N fl) := by
    rw [← wo_grR (r := S t) (R := S a) hP5, hG]
    cases dWt (S t) (S a) P N fl with
    | none => rfl
    | some k => exact up_ne (by omega)
  have hC := c_serve (S := stR (stR S a (up G 12 (dPo (S a) bowl))) m O) (J := J) (T := T) (P := P) (w := cN2 (wo (S a) (dWt (S t) (S a) P N fl))) (l := cN2 (dPo (S a) bowl)) (H := fun p => cN2 (G p)) (q := dWt (S t) (S a) P N fl) (F := dSq (S t) (S a) P f) hm ha hne hP5 (fun k hk => by have := hql k hk; omega)
    (by rw [stR_eq, hO2 1 (by omega), stR_eq, hM1]) (by omega) (by rw [stR_ne hne, stR_eq, hwo]; exact hwq2.1)
    (fun p hp => by rw [stR_ne hne, stR_eq, up_ne (by omega)]; exact (sm_cN (hGs p hp) (by omega)).1) (fun p hp => by have := (sm_cN (hGs p hp) (by omega)).2; omega)
    (by rw [stR_ne hne, stR_eq, up_eq]; exact hP12.1) (by omega) hO4 (fun i p hp => by rw [stR_eq]; exact hO1 i p hp) (by omega)
  have hsv : srv (cN2 (wo (S a) (dWt (S t) (S a) P N fl))) (dSq (S t) (S a) P f) 100 (fun p => cN2 (G p), cN2 (dPo (S a) bowl), fun _ => 0, true) = dSv (S t) (S a) P f bowl (dWt (S t) (S a) P N fl) := by unfold dSv; rw [hG]
  rw [hsv] at hC
  simp only [stR_eq, stR_ne hne, stR_sw hne, stR_stR] at hC
  have hpe : pE P (up G 12 (dPo (S a) bowl)) (dSv (S t) (S a) P f bowl (dWt (S t) (S a) P N fl)).1 (dSv (S t) (S a) P f bowl (dWt (S t) (S a) P N fl)).2.1 = dRw (S t) (S a) P f bowl (dWt (S t) (S a) P N fl) := by
    unfold dRw
    rw [hG]
    funext j
    unfold pE
    by_cases h1 : j < P
    · rw [if_pos h1, if_pos h1]
    · rw [if_neg h1, if_neg h1]
      by_cases h2 : j = 12
      · rw [if_pos h2, if_pos h2]
      · rw [if_neg h2, if_neg h2, up_ne h2]
  rw [hpe] at hC
  -- the end
  refine ⟨mE O (dSv (S t) (S a) P f bowl (dWt (S t) (S a) P N fl)).2.2.1, ?_, ?_, ?_, fun p hp => ?_⟩
  · simp (disch := omega) only [fX6_hold_92, fX6_hold_95, fX6_hold_99, fX6_hold_102, ml_isO hm, pl_isO ha, Option.bind_some, hC, c_close ha ht hta (hPs _ _) hP5, stR_ne hne, stR_eq, stR_ne hnt, stR_ne hta, stR_sw hne]
    unfold dayR dEnd
    rw [hf]
  · show mE O _ 0 = _
    rw [show mE O (dSv (S t) (S a) P f bowl (dWt (S t) (S a) P N fl)).2.2.1 0 = O 0 from if_neg (by omega), hO2 0 (by omega), stR_eq, hM0]
  · show mE O _ 1 = _
    rw [show mE O (dSv (S t) (S a) P f bowl (dWt (S t) (S a) P N fl)).2.2.1 1 = O 1 from if_neg (by omega), hO2 1 (by omega), stR_eq, hM1]
  · rw [mE_lo hp]
    unfold dayE
    rw [hf]
end HOLD

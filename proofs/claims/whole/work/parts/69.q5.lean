-- WITHIN DAYS, OF THE REFERENCE
def aP (r : Row) (P N F : Nat) (R : Row) (pv : Option Nat) (i : Nat) : Int32 := match pv with
  | none => nI 0
  | some j => aN r P N F (r 0) R i j
def bP (r : Row) (P N F : Nat) (R : Row) (pv : Option Nat) (i : Nat) : Int32 := match pv with
  | none => nI 0
  | some j => bN r P N F (r 0) R i j
def fdN (r : Row) (P N F : Nat) (R : Row) (kv : Option Nat) : Nat → Option Nat
  | 0 => none
  | i + 1 => match fdN r P N F R kv i with
    | some d => some d
    | none => if kv ≠ none ∧ dWt r (dyN r P N F (r 0) i R) P N false = kv then some (i + 1) else none
def pI' (b : Option Nat) : Int32 := match b with
  | none => m1
  | some j => nI j
set_option maxRecDepth 100000 in
set_option maxHeartbeats 400000 in
theorem pI_n : pI' none = m1 := rfl
set_option maxRecDepth 100000 in
set_option maxHeartbeats 400000 in
theorem pI_s (j : Nat) : pI' (some j) = nI j := rfl
set_option maxRecDepth 100000 in
set_option maxHeartbeats 400000 in
theorem on_m1 : (oi none = m1) = False := eq_false (by decide)
set_option maxRecDepth 100000 in
set_option maxHeartbeats 400000 in
theorem nI_m1 {k : Nat} (h : k < 5000) : (nI k = m1) = False := by
  refine eq_false (fun z => ?_)
  have h1 := nI_lt0 h
  rw [z, mn_lt] at h1
  exact (cast h1 trivial : False)
set_option maxRecDepth 100000 in
set_option maxHeartbeats 400000 in
theorem on_nI {k : Nat} (h : k < 5000) : (oi none = nI k) = False := by
  refine eq_false (fun z => ?_)
  have h1 := nI_lt0 h
  rw [← z, on_lt] at h1
  exact (cast h1 trivial : False)
set_option maxRecDepth 100000 in
set_option maxHeartbeats 400000 in
theorem oi_pI {b c : Option Nat} (hb : ∀ j, b = some j → j < 5000) (hc : ∀ j, c = some j → j < 5000) : (oi b = pI' c) = (c ≠ none ∧ b = c) := by
  cases c with
  | none =>
    rw [pI_n]
    cases b with
    | none => rw [on_m1]; simp
    | some j => rw [oi_some, nI_m1 (hb j rfl)]; simp
  | some k =>
    rw [pI_s]
    cases b with
    | none => rw [on_nI (hc k rfl)]; simp
    | some j => rw [oi_some, eq_eq (hb j rfl) (hc k rfl)]; simp
def wst (S : Mem) (r : Row) (P N F : Nat) (R : Row) (pv kv : Option Nat) (i : Nat) : Prop := mcr S r P N F R i ∧ S 167 29 = aP r P N F R pv i ∧ S 167 30 = bP r P N F R pv i ∧ S 167 31 = dN' r P N F (r 0) R i ∧ S 167 32 = wN r P N F (r 0) R i ∧ S 167 33 = oi (fdN r P N F R kv i)
def wfm (S S' : Mem) : Prop := fr S S' [167, 175, 178, 179] ∧ ∀ j, j < 25 → S' 167 j = S 167 j
set_option maxRecDepth 100000 in
set_option maxHeartbeats 400000 in
theorem wfm_tr {S S' S'' : Mem} (h : wfm S S') (h' : wfm S' S'') : wfm S S'' := ⟨fr_tr h.1 h'.1, fun j a => (h'.2 j a).trans (h.2 j a)⟩
set_option maxRecDepth 100000 in
set_option maxHeartbeats 400000 in
theorem fdN_le {r : Row} {P N F : Nat} {R : Row} {kv : Option Nat} : ∀ i d, fdN r P N F R kv i = some d → d ≤ i := by
  intro i
  induction i with
  | zero => intro d h; cases h
  | succ i ih =>
    intro d h
    unfold fdN at h
    cases e : fdN r P N F R kv i with
    | some d' =>
      rw [e] at h
      have := Option.some.inj h
      have := ih d' e
      omega
    | none =>
      rw [e] at h
      dsimp only at h
      split at h
      · have := Option.some.inj h; omega
      · cases h
section WI
variable {S S1 : Mem} {J : MeJ} {T : Nat → Nat} {P N F D : Nat}
set_option maxRecDepth 100000 in
set_option maxHeartbeats 400000 in
theorem w_step {r : Row} (hr : S 170 = r) (hT : TbS r P N) (hF : r 5 = nI F) (hF8 : F ≤ 8) {R : Row} (hI : Inv R P N D) {i n : Nat} (hD : D + i ≤ 3000) (hin : i < n) (hn : n ≤ 60) {pv kv : Option Nat} (hpv : ∀ j, pv = some j → j < 5) (hkv : ∀ j, kv = some j → j < 8) (h : wst S r P N F R pv kv i) (K : Nat → Int32 → Int32 → Int32 → Int32 → aH → Option aH) : ∃ S', fX11_within_33 K 167 (pI' pv) (pI' kv) (nI n) (nI (i + 1)) (hp S J T) = K 167 (pI' pv) (pI' kv) (nI n) (nI (i + 2)) (hp S' J T) ∧ wst S' r P N F R pv kv (i + 1) ∧ wfm S S' := by
  obtain ⟨h0, h1, h2, h3, h4, h5⟩ := h
  unfold wst
  obtain ⟨M, g1, g2, g3⟩ := mcr_s (S := S) (J := J) (T := T) hr hT hF hF8 hI hD h0
  obtain ⟨g2a, g2b⟩ := id g2
  obtain ⟨w1, w2, w3⟩ := g2b i rfl
  have hi := dyN_inv (F := F) hT hI hT.2.2.2.2.1 i (by omega)
  have hwl : ∀ p, wn r (dyN r P N F (r 0) i R) P false = some p → p < P := wn_lt
  have hql : ∀ k, dWt r (dyN r P N F (r 0) i R) P N false = some k → k < N := dWt_lt
  have hP5 := hT.2.1
  have hN8 := hT.2.2.2.1
  have hwo : ∀ k, dWt r (dyN r P N F (r 0) i R) P N false = some k → M 175 (14 + k) = wo (dyN r P N F (r 0) i R) (some k) := by
    intro k hk
    rw [g2a, dyN_s]
    exact wo_day (r := r) hP5 (some k)
  have f29 : M 167 29 = aP r P N F R pv i := (g3.2 29 (by omega) (by omega)).trans h1
  have f30 : M 167 30 = bP r P N F R pv i := (g3.2 30 (by omega) (by omega)).trans h2
  have f31 : M 167 31 = dN' r P N F (r 0) R i := (g3.2 31 (by omega) (by omega)).trans h3
  have f32 : M 167 32 = wN r P N F (r 0) R i := (g3.2 32 (by omega) (by omega)).trans h4
  have f33 : M 167 33 = oi (fdN r P N F R kv i) := (g3.2 33 (by omega) (by omega)).trans h5
  have efd : fdN r P N F R kv (i + 1) = (match fdN r P N F R kv i with
    | some d => some d
    | none => if kv ≠ none ∧ dWt r (dyN r P N F (r 0) i R) P N false = kv then some (i + 1) else none) := rfl
  have edN : dN' r P N F (r 0) R (i + 1) = dN' r P N F (r 0) R i ||| bs (dWt r (dyN r P N F (r 0) i R) P N false) := rfl
  have ewN : wN r P N F (r 0) R (i + 1) = wN r P N F (r 0) R i + wo (dyN r P N F (r 0) i R) (dWt r (dyN r P N F (r 0) i R) P N false) := rfl
  have eaP : aP r P N F R pv (i + 1) = (match pv with
    | none => nI 0
    | some j => aP r P N F R pv i + M 178 j) := by
    cases pv with
    | none => rfl
    | some j => dsimp only; rw [w3 j (hpv j rfl)]; rfl
  have ebP : bP r P N F R pv (i + 1) = bP r P N F R pv i + (if pv ≠ none ∧ wn r (dyN r P N F (r 0) i R) P false = pv then nI 1 else nI 0) := by
    cases pv with
    | none => rw [if_neg (fun z => z.1 rfl)]; exact (add0 _).symm
    | some j =>
      show bN r P N F (r 0) R i j + ws _ j = bN r P N F (r 0) R i j + _
      unfold ws
      by_cases e : wn r (dyN r P N F (r 0) i R) P false = some j
      · rw [if_pos e, if_pos ⟨by simp, e⟩]
      · rw [if_neg e, if_neg (fun z => e z.2)]
  have efi := fun d => fdN_le (r := r) (P := P) (N := N) (F := F) (R := R) (kv := kv) i d
  generalize fdN r P N F R kv (i + 1) = fd1 at efd ⊢
  generalize wn r (dyN r P N F (r 0) i R) P false = y at *
  generalize dWt r (dyN r P N F (r 0) i R) P N false = x at *
  generalize fdN r P N F R kv i = fd0 at *
  -- the first sum
  have hA : fX11_within_33 K 167 (pI' pv) (pI' kv) (nI n) (nI (i + 1)) (hp S J T) = fX11_within_68 K 167 (pI' pv) (pI' kv) (nI n) (nI (i + 1)) (hp (stR M 167 (up (M 167) 29 (aP r P N F R pv (i + 1)))) J T) := by
    rw [eaP]
    cases pv with
    | none =>
      have e : aP r P N F R none i = nI 0 := rfl
      rw [e] at f29
      have eu : up (M 167) 29 (nI 0) = M 167 := by rw [← f29]; exact up_self
      dsimp only
      rw [eu, stR_self]
      simp (disch := omega) only [fX11_within_33, fX11_within_39, fX11_within_46, fX11_within_49, lt_eq, show ¬ n < i + 1 by omega, ↓reduceIte, mo_f20, mo_isO, Option.bind_some, kI_0, g1, pI_n, mn_lt]
    | some j =>
      have := hpv j rfl
      simp (disch := omega) only [fX11_within_33, fX11_within_39, fX11_within_46, fX11_within_49, fX11_within_53, lt_eq, show ¬ n < i + 1 by omega, ↓reduceIte, mo_f20, mo_f27, mo_r27, mo_g29, mo_p29, mo_isO, Option.bind_some, kI_0, g1, pI_s, nI_lt0, f29, stS_R]
  generalize hX1 : up (M 167) 29 (aP r P N F R pv (i + 1)) = X1 at hA
  have x1_25 : X1 25 = oi y := by rw [← hX1, up_ne (by omega), w1]
  have x1_30 : X1 30 = bP r P N F R pv i := by rw [← hX1, up_ne (by omega), f30]
  have hB : fX11_within_68 K 167 (pI' pv) (pI' kv) (nI n) (nI (i + 1)) (hp (stR M 167 X1) J T) = fX11_within_86 K 167 (pI' pv) (pI' kv) (nI n) (nI (i + 1)) (if pv ≠ none ∧ y = pv then nI 1 else nI 0) (bP r P N F R pv i) 167 (hp (stR M 167 X1) J T) := by
    have ey := oi_pI (b := y) (c := pv) (fun j hj => by have := hwl j hj; omega) (fun j hj => by have := hpv j hj; omega)
    by_cases e : pv ≠ none ∧ y = pv
    · have ey' : (oi y = pI' pv) = True := by rw [ey]; exact eq_true e
      rw [if_pos e]
      simp (disch := omega) only [fX11_within_68, fX11_within_81, mo_g30, mo_g25, Option.bind_some, stR_eq, x1_25, x1_30, ey', kI_1, ↓reduceIte]
    · have ey' : (oi y = pI' pv) = False := by rw [ey]; exact eq_false e
      rw [if_neg e]
      simp (disch := omega) only [fX11_within_68, fX11_within_85, mo_g30, mo_g25, Option.bind_some, stR_eq, x1_25, x1_30, ey', kI_0, ↓reduceIte]
  rw [hA, hB]
  generalize (if pv ≠ none ∧ y = pv then nI 1 else nI 0) = s0 at ebP ⊢
  have ebP' : bP r P N F R pv i + s0 = bP r P N F R pv (i + 1) := ebP.symm
  generalize hX2 : up X1 30 (bP r P N F R pv (i + 1)) = X2
  have x2_26 : X2 26 = oi x := by rw [← hX2, up_ne (by omega), ← hX1, up_ne (by omega), w2]
  have x2_31 : X2 31 = dN' r P N F (r 0) R i := by rw [← hX2, up_ne (by omega), ← hX1, up_ne (by omega), f31]
  have x2_32 : X2 32 = wN r P N F (r 0) R i := by rw [← hX2, up_ne (by omega), ← hX1, up_ne (by omega), f32]
  have x2_33 : X2 33 = oi fd0 := by rw [← hX2, up_ne (by omega), ← hX1, up_ne (by omega), f33]
  have x2_lo : ∀ j, j < 29 → X2 j = M 167 j := fun j hj => by rw [← hX2, up_ne (by omega), ← hX1, up_ne (by omega)]
  have hwst : ∀ X3 : Row, (∀ j, j < 31 → X3 j = X2 j) → X3 31 = dN' r P N F (r 0) R (i + 1) → X3 32 = wN r P N F (r 0) R (i + 1) → X3 33 = oi fd1 → (mcr (stR M 167 X3) r P N F R (i + 1) ∧ stR M 167 X3 167 29 = aP r P N F R pv (i + 1) ∧ stR M 167 X3 167 30 = bP r P N F R pv (i + 1) ∧ stR M 167 X3 167 31 = dN' r P N F (r 0) R (i + 1) ∧ stR M 167 X3 167 32 = wN r P N F (r 0) R (i + 1) ∧ stR M 167 X3 167 33 = oi fd1) ∧ wfm S (stR M 167 X3) := by
    intro X3 q1 q2 q3 q4
    refine ⟨⟨⟨?_, fun k hk => ?_⟩, ?_, ?_, ?_, ?_, ?_⟩, fr_st g3.1 (by decide), fun j hj => ?_⟩
    · rw [stR_ne (by omega)]; exact g2a
    · rw [stR_eq, stR_ne (show 178 ≠ 167 by omega), q1 25 (by omega), q1 26 (by omega), x2_lo 25 (by omega), x2_lo 26 (by omega)]
      exact g2.2 k hk
    · rw [stR_eq, q1 29 (by omega), ← hX2, up_ne (by omega), ← hX1, up_eq]
    · rw [stR_eq, q1 30 (by omega), ← hX2, up_eq]
    · rw [stR_eq, q2]
    · rw [stR_eq, q3]
    · rw [stR_eq, q4]
    · rw [stR_eq, q1 j (by omega), x2_lo j (by omega)]
      exact g3.2 j (by omega) (by omega)
  cases x with
  | none =>
    have e1 : fd1 = fd0 := by
      rw [efd]
      cases fd0 with
      | some d => rfl
      | none => exact if_neg (fun z => z.1 z.2.symm)
    refine ⟨stR M 167 X2, ?_, ?_⟩
    · simp (disch := omega) only [fX11_within_86, fX11_within_97, fX11_within_157, mo_p30, mo_g26, Option.bind_some, stS_R, stR_eq, stR_stR, ebP', hX2, x2_26, on_lt, ↓reduceIte, kI_1, nI_add]
    · exact hwst X2 (fun _ _ => rfl) (by rw [x2_31, edN]; exact (or0 _).symm) (by rw [x2_32, ewN]; exact (add0 _).symm) (by rw [x2_33, e1])
  | some k =>
    have hk8 := hql k rfl
    have hk175 := hwo k rfl
    rw [oi_some] at x2_26
    generalize hX3 : up (up X2 31 (dN' r P N F (r 0) R (i + 1))) 32 (wN r P N F (r 0) R (i + 1)) = X3
    have x3_26 : X3 26 = nI k := by rw [← hX3, up_ne (by omega), up_ne (by omega), x2_26]
    have x3_33 : X3 33 = oi fd0 := by rw [← hX3, up_ne (by omega), up_ne (by omega), x2_33]
    have x3_lo : ∀ j, j < 31 → X3 j = X2 j := fun j hj => by rw [← hX3, up_ne (by omega), up_ne (by omega)]
    have x3_31 : X3 31 = dN' r P N F (r 0) R (i + 1) := by rw [← hX3, up_ne (by omega), up_eq]
    have x3_32 : X3 32 = wN r P N F (r 0) R (i + 1) := by rw [← hX3, up_eq]
    have ed2 : dN' r P N F (r 0) R i ||| (nI 1 <<< (nI k &&& 31)) = dN' r P N F (r 0) R (i + 1) := by rw [edN]; rfl
    have ew2 : wN r P N F (r 0) R i + M 175 (14 + k) = wN r P N F (r 0) R (i + 1) := by rw [ewN, hk175]
    have ek : (nI k = pI' kv) = (kv ≠ none ∧ some k = kv) := oi_pI (b := some k) (c := kv) (fun j hj => by cases hj; omega) (fun j hj => by have := hkv j hj; omega)
    by_cases e : kv ≠ none ∧ some k = kv
    · have ek' : (nI k = pI' kv) = True := by rw [ek]; exact eq_true e
      cases fd0 with
      | none =>
        have e1 : fd1 = some (i + 1) := by rw [efd]; exact if_pos e
        refine ⟨stR M 167 (up X3 33 (nI (i + 1))), ?_, ?_⟩
        · simp (disch := omega) only [fX11_within_86, fX11_within_100, fX11_within_144, fX11_within_151, fX11_within_157, mo_p30, mo_g26, mo_g31, mo_p31, mo_g32, mo_p32, mo_g33, mo_p33, mo_f20, Option.bind_some, stS_R, stR_eq, stR_stR, ebP', hX2, x2_26, nI_lt0, ↓reduceIte, x2_31, kI_1, ed2, up_ne, x2_32, kB_14, nI_add, rw_r rwA_175, stR_ne (show 175 ≠ 167 by omega), ew2, hX3, x3_26, ek', x2_33, x3_33, on_lt]
        · exact hwst (up X3 33 (nI (i + 1))) (fun j hj => by rw [up_ne (by omega)]; exact x3_lo j hj) (by rw [up_ne (by omega)]; exact x3_31) (by rw [up_ne (by omega)]; exact x3_32) (by rw [up_eq, e1]; rfl)
      | some d =>
        have hd := efi d rfl
        have e1 : fd1 = some d := efd
        rw [oi_some] at x3_33
        refine ⟨stR M 167 X3, ?_, ?_⟩
        · simp (disch := omega) only [fX11_within_86, fX11_within_100, fX11_within_144, fX11_within_157, mo_p30, mo_g26, mo_g31, mo_p31, mo_g32, mo_p32, mo_g33, mo_f20, Option.bind_some, stS_R, stR_eq, stR_stR, ebP', hX2, x2_26, nI_lt0, ↓reduceIte, x2_31, kI_1, ed2, up_ne, x2_32, kB_14, nI_add, rw_r rwA_175, stR_ne (show 175 ≠ 167 by omega), ew2, hX3, x3_26, ek', x2_33, oi_some, x3_33]
        · exact hwst _ x3_lo x3_31 x3_32 (by rw [x3_33, e1]; rfl)
    · have ek' : (nI k = pI' kv) = False := by rw [ek]; exact eq_false e
      have e1 : fd1 = fd0 := by
        rw [efd]
        cases fd0 with
        | some d => rfl
        | none => exact if_neg e
      refine ⟨stR M 167 X3, ?_, ?_⟩
      · simp (disch := omega) only [fX11_within_86, fX11_within_100, fX11_within_157, mo_p30, mo_g26, mo_g31, mo_p31, mo_g32, mo_p32, mo_f20, Option.bind_some, stS_R, stR_eq, stR_stR, ebP', hX2, x2_26, nI_lt0, ↓reduceIte, x2_31, kI_1, ed2, up_ne, x2_32, kB_14, nI_add, rw_r rwA_175, stR_ne (show 175 ≠ 167 by omega), ew2, hX3, x3_26, ek']
      · exact hwst _ x3_lo x3_31 x3_32 (by rw [x3_33, e1])
end WI

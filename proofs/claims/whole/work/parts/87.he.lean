-- HEARSAY: a set, by both
set_option maxRecDepth 100000 in
set_option maxHeartbeats 400000 in
theorem uns_sm {r : Row} {s U P : Nat} (hv : ∀ k, k < U → sm (r (52 + 2 * k)) 99) : ∀ n k (X : Row), k + n ≤ U → (∀ p, p < P → sm (X p) 99) → ∀ p, p < P → sm (itr (uns r s) n k X p) 99 := by
  intro n
  induction n with
  | zero => intro k X _ h; exact h
  | succ n ih =>
    intro k X hk h
    refine ih (k + 1) (uns r s k X) (by omega) (fun p hpP => ?_)
    unfold uns
    split
    · by_cases z : p = cN2 (r (51 + 2 * k))
      · rw [z, up_eq]; exact hv k (by omega)
      · rw [up_ne z]; exact h p hpP
    · exact h p hpP
section HE5
variable {S S1 : Mem} {J : MeJ} {T : Nat → Nat} {t a w P N F U E D : Nat}
set_option maxRecDepth 100000 in
set_option maxHeartbeats 400000 in
theorem bg_inv {q Z Y : Row} {s : Nat} (hX : TbX q P N F U E) (h1 : ∀ p, p < P → sm (Z p) 99) (h2 : ∀ k, k < N → sm (Z (14 + k)) 20) (h3 : ∀ j, 5 ≤ j → j < 14 → Z j = nI 0) : Inv (bgM q Z Y s U) P N 999 := by
  obtain ⟨x1, x2, x3, x4, x5, x6, x7, x8, x9, x10, x11, x12, x13, x14, x15⟩ := hX
  have hP5 := x1.2.1
  have hN8 := x1.2.2.2.1
  have hc : ∀ j, j < 22 → cpR Z Y 22 j = Z j := fun j hj => if_pos (by omega)
  have hm : ∀ j, 5 ≤ j → j < 22 → bgM q Z Y s U j = Z j := fun j a b => by
    unfold bgM
    rw [uns_hi hP5 x13 a U 0 _ (by omega), hc j b]
  have hl : ∀ p, p < P → sm (bgM q Z Y s U p) 99 := uns_sm x14 U 0 _ (by omega) (fun p hpP => by rw [hc p (by omega)]; exact h1 p hpP)
  have hz : ∀ j B, 5 ≤ j → j < 14 → sm (bgM q Z Y s U j) B := fun j B a b => by rw [hm j a (by omega), h3 j a b]; exact ⟨0, by omega, rfl⟩
  refine ⟨fun p hpP => sm_le (hl p hpP) (by omega), fun p hpP _ => sm_le (hl p hpP) (by omega), fun p hpP => hz _ _ (by omega) (by omega), hz _ _ (by omega) (by omega), fun k hk => ?_, hz _ _ (by omega) (by omega), hz _ _ (by omega) (by omega), hz _ _ (by omega) (by omega)⟩
  rw [hm _ (by omega) (by omega)]
  exact h2 k hk
set_option maxRecDepth 100000 in
set_option maxHeartbeats 400000 in
theorem bd_ag {r q R Q : Row} {f : Nat → Nat} (hr : agT r q P N F) (h : agR R Q P N) (hP5 : P ≤ 5) (hu : agU r q U E) : ∀ k, k < E → bd r P N F R f k = bd q P N F Q f k := by
  intro k hk
  unfold bd dsh
  rw [hr.1 0 (by omega), ag_dWt hr (dyN_ag hr h hP5 _), (hu.2 k hk).1]
def hdF (r : Row) (k : Nat) : Nat := cN2 (r (60 + 2 * k))
set_option maxRecDepth 100000 in
set_option maxHeartbeats 400000 in
theorem hdF_e {r : Row} (hX : TbX r P N F U E) : ∀ k, k < E → 1 ≤ hdF r k ∧ hdF r k ≤ 60 ∧ r (60 + 2 * k) = nI (hdF r k) := by
  intro k hk
  obtain ⟨d, d1, d2, e⟩ := hX.2.2.2.2.2.2.2.2.2.2.2.2.2.2 k hk
  obtain ⟨a1, a2⟩ := sm_cN (x := r (60 + 2 * k)) (B := 60) ⟨d, d2, e⟩ (by omega)
  have : nI d = nI (hdF r k) := by rw [← e]; exact a1
  rw [eq_eq (by omega) (by unfold hdF; omega)] at this
  exact ⟨by omega, a2, a1⟩
set_option maxRecDepth 100000 in
set_option maxHeartbeats 400000 in
theorem c_wrong {S0 : Mem} (hy : Yes S t P N F U E) (h0r : S0 170 = S 170) (h0s : S0 172 = S 172) {s : Nat} {Q : Row} (hQ : agR Q (bgM (S 170) (S 172) (S0 175) s U) P N) : ∃ S', gX11_wrongBy 167 (nI s) (hp S0 J T) = some (oi (bF (bd (S 170) P N F Q (hdF (S 170))) E 0), hp S' J T) ∧ mfr S0 S' := by
  obtain ⟨y1, y2, y3, y4, y5, y6, y7, y8⟩ := hy
  obtain ⟨x1, x2, x3, x4, x5, x6, x7, x8, x9, x10, x11, x12, x13, x14, x15⟩ := id y1
  have hP5 := x1.2.1
  have hI := bg_inv (Z := S 172) (Y := S0 175) (s := s) y1 (fun p hpP => (y4.1 p hpP).2) (fun k hk => (y4.2.1 k hk).2) y4.2.2
  have hb := m_begin (S := S0) (J := J) (T := T) (U := U) (s := s) (by rw [h0r]; exact x5) x6 (by rw [h0r]; exact fun k hk => by obtain ⟨p, a, b⟩ := x13 k hk; exact ⟨p, by omega, b⟩)
  rw [h0r, h0s] at hb
  have hd := hdF_e y1
  obtain ⟨c', S', k1, k2, k3⟩ := l_wouter (J := J) (T := T) (r := S 170) (P := P) (N := N) (F := F) (E := E) (D := 999) x1 x3 x4 x7 x8 hI (by omega) (f := hdF (S 170)) (fun k hk => (hd k hk).2) 60 0 FU none (stR S0 175 (bgM (S 170) (S 172) (S0 175) s U)) (by omega) (FU_lt (by omega)) (by rw [stR_ne (by omega)]; exact h0r) stR_eq (fun h hh => by
    have := (hd h hh).1
    unfold bq
    rw [decide_eq_false (show ¬ hdF (S 170) h < 0 + 1 by omega), decide_eq_false (Nat.not_lt_zero h), Bool.and_false, Bool.or_false, Bool.and_false])
  have e : fst1 E (bd (S 170) P N F Q (hdF (S 170))) c' := fst1_cg k3 (fun j hj => by
    have := (hd j hj).2.1
    unfold bq
    rw [decide_eq_true (show hdF (S 170) j < 61 by omega), Bool.true_or, Bool.and_true]
    exact (bd_ag (agT_rf _ P N F) hQ hP5 (U := 0) (E := E) ⟨fun k hk => by omega, fun k hk => ⟨rfl, rfl⟩⟩ j hj).symm)
  rw [fst1_uni e (bF_fst1 E 0 (by omega) (fun j hj => by omega))] at k1
  refine ⟨S', ?_, fun c hc => ?_, fun j a b => ?_⟩
  · rw [hb, ← k1]
    simp (disch := omega) only [fX11_wrongBy_71, kB_o, kI_1]
  · rw [k2.1 c hc, stR_ne (fun z => hc (by rw [z]; decide))]
  · rw [k2.2 j a b, stR_ne (by omega)]
end HE5

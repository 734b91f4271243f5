-- WHO SHOULD FAST: whether a day keeps all
section KEEP
variable {r R : Row} {P N F D : Nat}
set_option maxRecDepth 100000 in
set_option maxHeartbeats 400000 in
theorem dRw_rn {f bowl : Int32} {x : Option Nat} {p : Nat} (hp : p < P) : dRw r R P f bowl x p = nI ((rn0 (cN2 (wo R x)) (dSq r R P f) 100 (fun p => cN2 (grR r R P p), cN2 (dPo R bowl))).1 p) := by
  unfold dRw dSv
  rw [pE_lo hp]
  have := pj_srv (cN2 (wo R x)) (dSq r R P f) 100 (fun p => cN2 (grR r R P p), cN2 (dPo R bowl), fun _ => 0, true) (Or.inl rfl)
  exact congrArg (fun s => nI (s.1 p)) this
set_option maxRecDepth 100000 in
set_option maxHeartbeats 400000 in
theorem day_10 (hP5 : P ≤ 5) {bes bowl : Int32} {fl : Bool} : dayR r R P N F bes fl bowl 10 = R 10 ↔ ∀ p, p < P → lv R p = true → ¬ r 1 < dRw r R P (dF r R F bes) bowl (dWt r R P N fl) p := by
  unfold dayR
  rw [dEnd_10 hP5]
  generalize hQ : dRw r R P (dF r R F bes) bowl (dWt r R P N fl) = Q
  have h10 : Q 10 = R 10 := by rw [← hQ]; exact dRw_hi hP5 (by omega) (by omega)
  have hlv : ∀ p, lv Q p = lv R p := fun p => by rw [← hQ]; exact lv_dRw hP5 p
  refine ⟨fun h p hp hl hc => ?_, fun h => b_ext (fun i hi => ?_)⟩
  · have e := ddR_in (r := r) (R := Q) (p := p) (by omega) P (by omega)
    rw [h, h10, decide_eq_true hp, hlv p, hl, decide_eq_true hc] at e
    unfold lv at hl
    cases hb : bt (R 10) p with
    | true => rw [hb] at hl; cases hl
    | false => rw [hb] at e; cases e
  · rw [ddR_in hi P (by omega), h10, hlv i]
    by_cases hp : i < P
    · cases hl : lv R i with
      | false => rw [Bool.false_and, Bool.and_false, Bool.or_false]
      | true => rw [decide_eq_false (h i hp hl), Bool.and_false, Bool.and_false, Bool.or_false]
    · rw [decide_eq_false hp, Bool.false_and, Bool.or_false]
set_option maxRecDepth 100000 in
set_option maxHeartbeats 400000 in
theorem gr_lv {p : Nat} (hp : p < P) (hl : lv R p = true) : grR r R P p = R p + r (10 + 2 * p) := if_pos ⟨hp, hl⟩
set_option maxRecDepth 100000 in
set_option maxHeartbeats 400000 in
theorem b_dF {bes : Int32} {p : Nat} : bt (dF r R F bes) p = (bt (fs r (R 13 + nI 1) F 0 (R 11)) p || bt bes p) := by unfold dF; rw [b_or]
-- who fasts and lives as hungry as he has become
set_option maxRecDepth 100000 in
set_option maxHeartbeats 400000 in
theorem rw_fast (hT : TbS r P N) (hI : Inv R P N D) {bes bowl : Int32} {x : Option Nat} {p : Nat} (hp : p < P) (hb : bt (dF r R F bes) p = true) : dRw r R P (dF r R F bes) bowl x p = grR r R P p := by
  rw [dRw_rn hp]
  have hn : p ∉ dSq r R P (dF r R F bes) := fun z => by
    rw [dSq_eq hT.1 hT.2.1] at z
    have := sq_E p z
    rw [hb, Bool.not_true, Bool.and_false] at this
    cases this
  rw [rn0_ne hn]
  exact (sm_cN (gr_inv hT hI p hp) (by omega)).1.symm
set_option maxRecDepth 100000 in
set_option maxHeartbeats 400000 in
theorem keeps_f (hT : TbS r P N) (hI : Inv R P N D) {bes bowl : Int32} {fl : Bool} (hk : dayR r R P N F bes fl bowl 10 = R 10) {p : Nat} (hp : p < P) (hl : lv R p = true) (hb : bt bes p = true) : ¬ r 1 < R p + r (10 + 2 * p) := by
  have := (day_10 hT.2.1).mp hk p hp hl
  rw [rw_fast hT hI hp (by rw [b_dF, hb, Bool.or_true]), gr_lv hp hl] at this
  exact this
set_option maxRecDepth 100000 in
set_option maxHeartbeats 400000 in
theorem keeps_mo (hT : TbS r P N) (hI : Inv R P N D) {b1 b2 bowl : Int32} {fl : Bool} (hsub : ∀ p, p < P → bt b1 p = true → bt b2 p = true) (hsafe : ∀ p, p < P → lv R p = true → bt b2 p = true → ¬ r 1 < R p + r (10 + 2 * p)) (hk : dayR r R P N F b1 fl bowl 10 = R 10) : dayR r R P N F b2 fl bowl 10 = R 10 := by
  have hP5 := hT.2.1
  rw [day_10 hP5] at hk ⊢
  intro p hp hl
  have h1 := hk p hp hl
  cases hf2 : bt (dF r R F b2) p with
  | true =>
    rw [rw_fast hT hI hp hf2]
    cases hf1 : bt (dF r R F b1) p with
    | true => rw [rw_fast hT hI hp hf1] at h1; exact h1
    | false =>
      rw [b_dF] at hf1 hf2
      rw [gr_lv hp hl]
      refine hsafe p hp hl ?_
      cases hz : bt (fs r (R 13 + nI 1) F 0 (R 11)) p with
      | true => rw [hz] at hf1; cases hf1
      | false => rw [hz] at hf2; exact hf2
  | false =>
    have hE : dSq r R P (dF r R F b2) = (dSq r R P (dF r R F b1)).filter (fun p => lv (grR r R P) p && !bt (dF r R F b2) p) := by
      rw [dSq_eq hT.1 hP5, dSq_eq hT.1 hP5]
      refine sq_fl (fun q hq h => ?_)
      rw [Bool.and_eq_true] at h
      rw [h.1, Bool.true_and]
      cases hz : bt (dF r R F b1) q with
      | false => rfl
      | true =>
        have h2 := h.2
        rw [b_dF] at hz h2
        cases hy : bt (fs r (R 13 + nI 1) F 0 (R 11)) q with
        | true => rw [hy] at h2; cases h2
        | false =>
          rw [hy] at hz h2
          have hz' : bt b1 q = true := hz
          rw [hsub q hq hz'] at h2
          cases h2
    rw [dRw_rn hp] at h1 ⊢
    rw [hE]
    have hc := (cm_rn (E := fun p => lv (grR r R P) p && !bt (dF r R F b2) p) (w := cN2 (wo R (dWt r R P N fl))) (L := dSq r R P (dF r R F b1)) 100 (fun p => cN2 (grR r R P p), cN2 (dPo R bowl)) (fun p => cN2 (grR r R P p), cN2 (dPo R bowl)) ⟨Nat.le_refl _, fun _ _ => Nat.le_refl _⟩).2 p (by show (lv (grR r R P) p && !bt (dF r R F b2) p) = true; rw [lv_gr hP5, hl, hf2]; rfl)
    have hle : (rn0 (cN2 (wo R (dWt r R P N fl))) (dSq r R P (dF r R F b1)) 100 (fun p => cN2 (grR r R P p), cN2 (dPo R bowl))).1 p ≤ 300 := by
      have h3 := dRw_lo (f := dF r R F b1) (bowl := bowl) (x := dWt r R P N fl) hT hI hp
      obtain ⟨n, hn, en⟩ := h3
      have h4 := (srv_le (cN2 (wo R (dWt r R P N fl))) (dSq r R P (dF r R F b1)) 100 (fun p => cN2 (grR r R P p), cN2 (dPo R bowl), fun _ => 0, true)).1 p
      have h5 := pj_srv (cN2 (wo R (dWt r R P N fl))) (dSq r R P (dF r R F b1)) 100 (fun p => cN2 (grR r R P p), cN2 (dPo R bowl), fun _ => 0, true) (Or.inl rfl)
      have h6 : (srv (cN2 (wo R (dWt r R P N fl))) (dSq r R P (dF r R F b1)) 100 (fun p => cN2 (grR r R P p), cN2 (dPo R bowl), fun _ => 0, true)).1 p = (rn0 (cN2 (wo R (dWt r R P N fl))) (dSq r R P (dF r R F b1)) 100 (fun p => cN2 (grR r R P p), cN2 (dPo R bowl))).1 p := congrArg (fun s => s.1 p) h5
      rw [h6] at h4
      have h7 := (sm_cN (gr_inv hT hI p hp) (by omega)).2
      exact Nat.le_trans h4 h7
    obtain ⟨s, hs, es⟩ := hT.2.2.2.2.2.1
    rw [es, lt_eq (by omega) (by omega)] at h1 ⊢
    omega
end KEEP

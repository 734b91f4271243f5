-- HEARSAY: the class weighs the sets
def fi (r Z : Row) (P N F U E s : Nat) : Bool := decide (bF (bd r P N F (bgM r Z Z s U) (hdF r)) E 0 = none)
def wgS (r Z : Row) (P N F U E : Nat) (s : Nat) (X : Row) : Row := if fi r Z P N F U E s = true then up (up (up (up X 3 (X 3 ||| (nI 1 <<< (nI s &&& 31)))) 0 (X 0 + nI 1)) 1 (X 1 ||| nI s)) 2 (X 2 &&& nI s) else X
set_option maxRecDepth 100000 in
set_option maxHeartbeats 400000 in
theorem pw_U : ∀ U, U < 5 → nI 1 <<< (nI U &&& 31) = nI (2 ^ U) ∧ 2 ^ U ≤ 16 := by decide
section HE7
variable {S S1 : Mem} {J : MeJ} {T : Nat → Nat} {t a w P N F U E D : Nat}
set_option maxRecDepth 100000 in
set_option maxHeartbeats 400000 in
theorem bF_lt {p : Nat → Bool} {E i : Nat} (h : bF p E 0 = some i) : i < E := by
  have q := bF_fst1 (p := p) (E := E) E 0 (by omega) (fun j hj => by omega)
  rw [h] at q
  exact q.1
set_option maxRecDepth 100000 in
set_option maxHeartbeats 400000 in
theorem l_weigh (htl : tlA t) (ht0 : 56 ≤ t) (hy : Yes S t P N F U E) : ∀ m k g S1, k + m = 2 ^ U → m < g → S1 t = S t → ∃ S', lX3_weigh_22 g 38 t (nI k) (hp S1 J T) = fX3_weigh_95 38 (hp S' J T) ∧ S' 38 = itr (wgS (S 170) (S 172) P N F U E) m k (S1 38) ∧ fr S1 S' [38, 39, 40, 44] := by
  have hP5 : P ≤ 5 := hy.1.1.2.1
  have hE6 : E ≤ 6 := hy.1.2.2.2.2.2.2.2.1
  have hU4 : U ≤ 4 := hy.1.2.2.2.2.2.1
  have hUt : S t 6 = nI U := by rw [hy.2.1.1 6 (by omega)]; exact hy.1.2.2.2.2.1
  obtain ⟨p1, p2⟩ := pw_U U (by omega)
  intro m
  induction m with
  | zero =>
    intro k g S1 hk hg h1
    obtain ⟨g, rfl⟩ : ∃ x, g = x + 1 := ⟨g - 1, by omega⟩
    obtain rfl : k = 2 ^ U := by omega
    refine ⟨S1, ?_, rfl, fr_rf _ _⟩
    unfold lX3_weigh_22
    simp (disch := omega) only [fX3_weigh_22, tl_g6 htl, h1, hUt, kI_1, p1, lt_eq, Nat.lt_irrefl, Option.bind_some, ↓reduceIte]
  | succ m ih =>
    intro k g S1 hk hg h1
    obtain ⟨g, rfl⟩ : ∃ x, g = x + 1 := ⟨g - 1, by omega⟩
    obtain ⟨S2, u1, u2⟩ := c_unlike (S := S) (S0 := S1) (J := J) (T := T) (s := k) htl ht0 hy h1
    rw [bF_cg (q := bd (S 170) P N F (bgM (S 170) (S 172) (S 172) k U) (hdF (S 170))) (fun j hj => bd_ag (agT_rf _ P N F) (y_bg hy (S1 40) (S 172) k) hP5 (U := 0) (E := E) ⟨fun k hk => by omega, fun k hk => ⟨rfl, rfl⟩⟩ j hj)] at u1
    have e38 : S2 38 = S1 38 := u2 38 (by decide)
    have et : S2 t = S t := by rw [u2 t (by simp; omega), h1]
    cases hc : bF (bd (S 170) P N F (bgM (S 170) (S 172) (S 172) k U) (hdF (S 170))) E 0 with
    | none =>
      have hf : fi (S 170) (S 172) P N F U E k = true := by unfold fi; rw [hc]; rfl
      rw [hc] at u1
      obtain ⟨S3, k1, k2, k3⟩ := ih (k + 1) g (stR S2 38 (wgS (S 170) (S 172) P N F U E k (S1 38))) (by omega) (by omega) (by rw [stR_ne (by omega)]; exact et)
      rw [stR_eq] at k2
      refine ⟨S3, ?_, k2, fr_tr (fr_st (fr_mo u2 (by decide)) (by decide)) k3⟩
      rw [← k1]
      unfold wgS
      rw [if_pos hf]
      conv => lhs; unfold lX3_weigh_22
      simp (disch := omega) only [fX3_weigh_22, fX3_weigh_32, fX3_weigh_38, fX3_weigh_41, fX3_weigh_44, fX3_weigh_47, fX3_weigh_89, tl_g6 htl, h1, hUt, kI_1, kB_16, p1, lt_eq, show k < 2 ^ U by omega, show k < 16 by omega, Option.bind_some, ↓reduceIte, he_isO, u1, on_lt, he_g0, he_g1, he_g2, he_g3, he_p0, he_p1, he_p2, he_p3, stS_R, stR_stR, stR_eq, e38, up_ne, nI_add]
    | some i =>
      have hi := bF_lt hc
      have hf : fi (S 170) (S 172) P N F U E k = false := by unfold fi; rw [hc]; rfl
      rw [hc] at u1
      obtain ⟨S3, k1, k2, k3⟩ := ih (k + 1) g S2 (by omega) (by omega) et
      refine ⟨S3, ?_, ?_, fr_tr (fr_mo u2 (by decide)) k3⟩
      · rw [← k1]
        conv => lhs; unfold lX3_weigh_22
        simp (disch := omega) only [fX3_weigh_22, fX3_weigh_32, fX3_weigh_38, fX3_weigh_41, fX3_weigh_44, fX3_weigh_89, tl_g6 htl, h1, hUt, kI_1, kB_16, p1, lt_eq, show k < 2 ^ U by omega, show k < 16 by omega, Option.bind_some, ↓reduceIte, he_isO, u1, oi_some, nI_lt0, nI_add]
      · rw [k2, e38]
        show itr _ m (k + 1) (S1 38) = itr _ m (k + 1) (wgS (S 170) (S 172) P N F U E k (S1 38))
        unfold wgS
        rw [hf, if_neg (by decide)]
end HE7

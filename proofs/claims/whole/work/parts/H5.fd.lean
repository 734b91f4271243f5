-- THE TEXT, the reference: find
def wrM (S : Mem) (y : Nat → Nat) (W : WL) : Prop := uqW y W ∧ (∀ w, w ∈ W → w.2.2 < 13 ∧ 0 < w.2.1 ∧ w.2.1 ≤ 8 ∧ S 171 (71 + w.2.2) = nI w.2.1 ∧ ∀ i, i < w.2.1 → S 171 (84 + 8 * w.2.2 + i) = nI (y (w.1 + i)) ∧ y (w.1 + i) < 5000) ∧ ∀ d, d < 13 → (∀ w, w ∈ W → w.2.2 ≠ d) → S 171 (71 + d) = nI 0
section RM5
variable {S : Mem} {J : MeJ} {T : Nat → Nat} {y : Nat → Nat} {s l : Nat} {W : WL}
set_option maxRecDepth 100000 in
set_option maxHeartbeats 400000 in
theorem c_find (hW : wrM S y W) (h8 : S 167 8 = nI l) (hl : l ≤ 8) (hs : ∀ i, i < l → S 169 i = nI (y (s + i)) ∧ y (s + i) < 5000) : gX11_find 167 (hp S J T) = some (om (fdW y s l W), hp S J T) := by
  obtain ⟨hu, hw, h0⟩ := hW
  have hloop : ∀ m d g, d + m = 13 → m < g → (∀ w, w ∈ W → w.2.2 < d → ¬ (w.2.1 = l ∧ eqY y w.1 s l = true)) → lX11_find_2 g 167 (nI d) (hp S J T) = some (om (fdW y s l W), hp S J T) := by
    intro m
    induction m with
    | zero =>
      intro d g hd hg hn
      obtain ⟨g, rfl⟩ : ∃ z, g = z + 1 := ⟨g - 1, by omega⟩
      have hz : fdW y s l W = none := by
        cases z : fdW y s l W with
        | none => rfl
        | some c =>
          obtain ⟨w, a1, a2, a3, a4⟩ := fdW_some z
          exact absurd ⟨a3, a4⟩ (hn w a1 (by have := (hw w a1).1; omega))
      rw [hz]
      unfold lX11_find_2 fX11_find_2
      rw [kB_13, if_neg (nltn (show ¬ d < 13 by omega) (by omega) (by omega))]
      unfold fX11_find_103
      rw [kI_n]
      rfl
    | succ m ih =>
      intro d g hd hg hn
      obtain ⟨g, rfl⟩ : ∃ z, g = z + 1 := ⟨g - 1, by omega⟩
      have hF : FU = 39999 + 1 := FU_eq
      have e40 : fX11_find_40 (lX11_find_2 g) 167 (nI d) (hp S J T) = lX11_find_2 g 167 (nI (d + 1)) (hp S J T) := by
        unfold fX11_find_40 fX11_find_41
        rw [kI_0, hF]
        exact c_fd0 h8 hl (by omega)
      conv => lhs; unfold lX11_find_2
      unfold fX11_find_2
      rw [kB_13, if_pos (ltn (show d < 13 by omega) (by omega))]
      unfold fX11_find_8
      rw [mo_f16, Option.bind_some, kB_71, nI_add, mo_r16 (by omega), Option.bind_some]
      by_cases ze : ∃ w, w ∈ W ∧ w.2.2 = d
      · obtain ⟨w, a1, a2⟩ := ze
        obtain ⟨b1, b2, b3, b4, b5⟩ := hw w a1
        rw [a2] at b4 b5
        rw [b4, if_pos (show (0 : Int32) < nI w.2.1 from (show nI 0 < nI w.2.1 from ltn b2 (by omega)))]
        unfold fX11_find_20
        rw [mo_f16, Option.bind_some, kB_71, nI_add, mo_r16 (by omega), Option.bind_some, b4, mo_g8, Option.bind_some, h8]
        have hnx : ¬ (w.2.1 = l ∧ eqY y w.1 s l = true) → ∀ w', w' ∈ W → w'.2.2 < d + 1 → ¬ (w'.2.1 = l ∧ eqY y w'.1 s l = true) := fun hq w' q1 q2 q3 => by
          by_cases z : w'.2.2 < d
          · exact hn w' q1 z q3
          · have hd' : w'.2.2 = d := by omega
            obtain ⟨c1, c2, c3, c4, c5⟩ := hw w' q1
            rw [hd'] at c4 c5
            have el : w.2.1 = w'.2.1 := by
              have e := b4.symm.trans c4
              rw [eq_eq (by omega) (by omega)] at e
              exact e
            refine hq ⟨el.trans q3.1, (eqY_all l).mpr (fun k hk => ?_)⟩
            have e1 := (b5 k (by omega)).1.symm.trans (c5 k (by omega)).1
            rw [eq_eq (b5 k (by omega)).2 (c5 k (by omega)).2] at e1
            exact e1.trans ((eqY_all l).mp q3.2 k hk)
        by_cases zl : w.2.1 = l
        · rw [if_pos (show nI w.2.1 = nI l by rw [zl])]
          unfold fX11_find_36 fX11_find_41
          rw [kI_1, kI_0, c_fd1 (w := w.1) h8 hl (by omega) hs (fun i hi => b5 i (by omega)) l 0 FU (by omega) (FU_lt (by omega)) rfl]
          by_cases zq : eqY y w.1 s l = true
          · rw [if_pos zq, fdW_uq hu a1 zl zq, a2]
            rfl
          · rw [if_neg zq]
            exact ih (d + 1) g (by omega) (by omega) (hnx (fun q => zq q.2))
        · rw [if_neg (show ¬ nI w.2.1 = nI l by rw [eq_eq (by omega) (by omega)]; exact zl), e40]
          exact ih (d + 1) g (by omega) (by omega) (hnx (fun q => zl q.1))
      · rw [h0 d (by omega) (fun w q1 q2 => ze ⟨w, q1, q2⟩), if_neg (show ¬ (0 : Int32) < nI 0 by decide), e40]
        exact ih (d + 1) g (by omega) (by omega) (fun w q1 q2 q3 => by
          by_cases z : w.2.2 < d
          · exact hn w q1 z q3
          · exact ze ⟨w, q1, by omega⟩)
  unfold gX11_find fX11_find_0
  rw [kI_0]
  exact hloop 13 0 FU (by omega) (FU_lt (by omega)) (fun w _ q => absurd q (Nat.not_lt_zero _))
end RM5

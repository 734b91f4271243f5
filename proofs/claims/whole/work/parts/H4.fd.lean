-- THE TEXT, the reference: one name looked at
section RM4
variable {S : Mem} {J : MeJ} {T : Nat → Nat} {y : Nat → Nat} {s l d w : Nat}
set_option maxRecDepth 100000 in
set_option maxHeartbeats 400000 in
theorem c_fd0 {k2 : Nat → Int32 → aH → Option (Int32 × aH)} (h8 : S 167 8 = nI l) (hl : l ≤ 8) {k g : Nat} (hk : k ≤ 8) : lX11_find_44 k2 (g + 1) 167 (nI d) (nI 0) (nI k) (hp S J T) = k2 167 (nI (d + 1)) (hp S J T) := by
  have e91 : fX11_find_91 k2 167 (nI d) (nI 0) (hp S J T) = k2 167 (nI (d + 1)) (hp S J T) := by
    unfold fX11_find_91
    rw [if_pos (show nI 0 = 0 from rfl)]
    unfold fX11_find_97
    rw [kI_1, nI_add]
  unfold lX11_find_44 fX11_find_44
  rw [mo_g8, Option.bind_some]
  split
  · unfold fX11_find_52
    rw [if_pos (show nI 0 = 0 from rfl)]
    exact e91
  · exact e91
set_option maxRecDepth 100000 in
set_option maxHeartbeats 400000 in
theorem c_fd1 {k2 : Nat → Int32 → aH → Option (Int32 × aH)} (h8 : S 167 8 = nI l) (hl : l ≤ 8) (hd : d < 13) (hs : ∀ i, i < l → S 169 i = nI (y (s + i)) ∧ y (s + i) < 5000) (hw : ∀ i, i < l → S 171 (84 + 8 * d + i) = nI (y (w + i)) ∧ y (w + i) < 5000) : ∀ m k g, k + m = l → m + 1 < g → eqY y w s k = true → lX11_find_44 k2 g 167 (nI d) (nI 1) (nI k) (hp S J T) = if eqY y w s l then some (nI d, hp S J T) else k2 167 (nI (d + 1)) (hp S J T) := by
  intro m
  induction m with
  | zero =>
    intro k g hk hg he
    obtain ⟨g, rfl⟩ : ∃ z, g = z + 1 := ⟨g - 1, by omega⟩
    obtain rfl : k = l := by omega
    rw [he, if_pos rfl]
    unfold lX11_find_44 fX11_find_44
    rw [mo_g8, Option.bind_some, h8, if_neg (nltn (Nat.lt_irrefl _) (by omega) (by omega))]
    unfold fX11_find_91
    rw [if_neg (show ¬ nI 1 = 0 by decide)]
    rfl
  | succ m ih =>
    intro k g hk hg he
    obtain ⟨g, rfl⟩ : ∃ z, g = z + 1 := ⟨g - 1, by omega⟩
    have hkl : k < l := by omega
    obtain ⟨s1, s2⟩ := hs k hkl
    obtain ⟨w1, w2⟩ := hw k hkl
    conv => lhs; unfold lX11_find_44
    unfold fX11_find_44
    rw [mo_g8, Option.bind_some, h8, if_pos (ltn hkl (by omega))]
    unfold fX11_find_52
    rw [if_neg (show ¬ nI 1 = 0 by decide)]
    unfold fX11_find_56
    rw [mo_f16, Option.bind_some, kB_84, kB_8, ix8, nI_add, mo_r16 (by omega), Option.bind_some, mo_f12, Option.bind_some, mo_r12 (by omega), Option.bind_some, s1, w1]
    have eS : eqY y w s (k + 1) = decide (y (w + k) = y (s + k)) := by
      show (eqY y w s k && decide (y (w + k) = y (s + k))) = _
      rw [he, Bool.true_and]
    by_cases z : y (w + k) = y (s + k)
    · rw [if_pos (show nI (y (w + k)) = nI (y (s + k)) by rw [z])]
      unfold fX11_find_79 fX11_find_84
      rw [kI_1, nI_add]
      exact ih (k + 1) g (by omega) (by omega) (by rw [eS]; exact decide_eq_true z)
    · rw [if_neg (show ¬ nI (y (w + k)) = nI (y (s + k)) by rw [eq_eq w2 s2]; exact z)]
      unfold fX11_find_83 fX11_find_84
      obtain ⟨g, rfl⟩ : ∃ z, g = z + 1 := ⟨g - 1, by omega⟩
      have hf : ¬ eqY y w s l = true := fun q => z ((eqY_all l).mp q k hkl)
      rw [kI_1, kI_0, nI_add, c_fd0 h8 hl (by omega), if_neg hf]
end RM4

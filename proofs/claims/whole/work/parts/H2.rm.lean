-- THE TEXT, the reference: a line's beginning
section RM2
variable {S : Mem} {J : MeJ} {T : Nat → Nat} {y : Nat → Nat} {n s : Nat}
set_option maxRecDepth 100000 in
set_option maxHeartbeats 400000 in
theorem c_bgn0 (h : tM S y n s) {i : Nat} (hi : i < 34) (hw : wdB y n s (stN i) = false) {v : Int32} : gX11_begins 167 (SB + i) v (hp S J T) = some (nI 0, hp S J T) := by
  unfold gX11_begins fX11_begins_0 fX11_begins_2
  rw [mo_isO, Option.bind_some, c_isWM h hi, Option.bind_some, hw]
  unfold fX11_begins_5
  rw [if_pos (show bI false = 0 by decide)]
  unfold fX11_begins_8
  rw [kI_0, if_pos o_0]
set_option maxRecDepth 100000 in
set_option maxHeartbeats 400000 in
theorem c_bgnF (h : S 167 13 = nI 1) {i : Nat} {v : Int32} : gX11_begins 167 i v (hp S J T) = some (nI 0, hp S J T) := by
  unfold gX11_begins fX11_begins_0 fX11_begins_2
  rw [mo_isO, Option.bind_some, c_isWF h, Option.bind_some]
  unfold fX11_begins_5
  rw [if_pos (show nI 0 = 0 from rfl)]
  unfold fX11_begins_8
  rw [kI_0, if_pos o_0]
set_option maxRecDepth 100000 in
set_option maxHeartbeats 400000 in
theorem c_bgn1 (h : tM S y n s) {i k : Nat} (hi : i < 34) (hw : wdB y n s (stN i) = true) (hk : S 171 8 = nI k) (hk1 : k ≤ 1) (r : Bool) : ∃ S', gX11_begins 167 (SB + i) (bI r) (hp S J T) = some (nI 1, hp S' J T) ∧ outM S' (if r then (if k = 0 then .inl (6, s) else .inr 0) else .inl (5, s) : PR Nat) (fun _ => tM S' y n (nx y n s)) ∧ frM S S' := by
  have h13 := h.2.2.2.1
  have e0 : gX11_begins 167 (SB + i) (bI r) (hp S J T) = fX11_begins_10 167 (bI r) (hp S J T) := by
    unfold gX11_begins fX11_begins_0 fX11_begins_2
    rw [mo_isO, Option.bind_some, c_isWM h hi, Option.bind_some, hw]
    unfold fX11_begins_5
    rw [if_neg (show ¬ bI true = 0 by decide)]
  have e43F : ∀ S' : Mem, S' 167 13 = nI 1 → fX11_begins_43 167 (hp S' J T) = some (nI 1, hp S' J T) := fun S' h' => by
    unfold fX11_begins_43 fX11_begins_44
    rw [mo_isO, Option.bind_some, c_passF h', Option.bind_some]
    unfold fX11_begins_47
    rw [kI_1, if_pos o_1]
  rw [e0]
  unfold fX11_begins_10
  cases r with
  | false =>
    rw [if_pos (show bI false = 0 by decide), if_neg (by decide)]
    obtain ⟨S4, g1, g2, g3⟩ := c_wrg (J := J) (T := T) h13 5 s
    refine ⟨S4, ?_, g2, g3⟩
    unfold fX11_begins_14 fX11_begins_20
    rw [mo_g4, Option.bind_some, h.2.2.2.2.1, mo_isO, Option.bind_some, kI_5, g1, Option.bind_some]
    unfold fX11_begins_23
    rw [mo_f16, Option.bind_some, kB_8, mo_r16 (by omega), Option.bind_some]
    split
    · unfold fX11_begins_33 fX11_begins_40
      rw [mo_g4, Option.bind_some, mo_isO, Option.bind_some, c_wrgF g2.1, Option.bind_some]
      exact e43F S4 g2.1
    · exact e43F S4 g2.1
  | true =>
    rw [if_neg (show ¬ bI true = 0 by decide), if_pos rfl]
    unfold fX11_begins_23
    rw [mo_f16, Option.bind_some, kB_8, mo_r16 (by omega), Option.bind_some, hk]
    by_cases z : k = 0
    · rw [z, if_pos (show nI 0 = 0 from rfl), if_pos rfl]
      obtain ⟨S4, g1, g2, g3⟩ := c_wrg (J := J) (T := T) h13 6 s
      refine ⟨S4, ?_, g2, g3⟩
      unfold fX11_begins_33 fX11_begins_40
      rw [mo_g4, Option.bind_some, h.2.2.2.2.1, mo_isO, Option.bind_some, kB_6, g1, Option.bind_some]
      exact e43F S4 g2.1
    · rw [if_neg (nzI (by omega) z), if_neg z]
      obtain ⟨S4, g1, g2, g3⟩ := c_pasM (J := J) (T := T) h (wd_k1 hw)
      refine ⟨S4, ?_, g2, g3⟩
      unfold fX11_begins_43 fX11_begins_44
      rw [mo_isO, Option.bind_some, g1, Option.bind_some]
      unfold fX11_begins_47
      rw [kI_1, if_pos o_1]
end RM2

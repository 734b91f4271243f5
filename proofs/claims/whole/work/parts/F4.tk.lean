-- THE TEXT: the reference's next, whole
def mkT (k : Nat) : Nat := if k = 4 then 59 else k
section TKN
variable {S : Mem} {J : MeJ} {T : Nat → Nat} {y : Nat → Nat} {n : Nat}
set_option maxRecDepth 100000 in
set_option maxHeartbeats 400000 in
theorem stR_2 {a b : Nat} (h : a ≠ b) : stR (stR S a (S a)) b (S b) = S := by
  rw [stR_self, stR_self]
set_option maxRecDepth 100000 in
set_option maxHeartbeats 400000 in
theorem c_next (ht : tpM S y n) {e : Nat} (he : e ≤ n) (h3 : S 167 3 = nI n) (h5 : S 167 5 = nI e) : ∃ X L : Row, gX11_next 167 (hp S J T) = some (hp (stR (stR S 167 X) 169 L) J T) ∧ X 4 = nI (tkS y n e) ∧ (tkK y n (tkS y n e) ≠ 1 → X 5 = nI (tkE y n (tkS y n e))) ∧ X 6 = nI (mkT (tkK y n (tkS y n e))) ∧ (tkK y n (tkS y n e) = 3 → X 7 = nI (tkV y n (tkS y n e))) ∧ (tkK y n (tkS y n e) = 2 → X 8 = nI (tkE y n (tkS y n e) - tkS y n e) ∧ ∀ i, i < tkE y n (tkS y n e) - tkS y n e → L i = nI (y (tkS y n e + i))) ∧ ∀ j, j ≠ 4 → j ≠ 5 → j ≠ 6 → j ≠ 7 → j ≠ 8 → X j = S 167 j := by
  have hn7 := ht.1
  obtain ⟨b1, b2⟩ := tkS_b (y := y) he
  have hst : hp S J T = hp (stR (stR S 167 (S 167)) 169 (S 169)) J T := by rw [stR_2 (by omega)]
  have h21 : gX11_next 167 (hp S J T) = fX11_next_21 167 (nI (tkS y n e)) (hp (stR (stR S 167 (S 167)) 169 (S 169)) J T) := by
    have hl := l_n5 (S := S) (J := J) (T := T) (X := S 167) (L := S 169) ht h3 (n - e) e FU rfl (FU_lt (by omega)) he
    have hl2 : fX11_next_21 167 (nI (tkS y n e)) (hp (stR (stR S 167 (S 167)) 169 (S 169)) J T) = lX11_next_5 FU 167 (nI e) (hp (stR (stR S 167 (S 167)) 169 (S 169)) J T) := hl.symm
    rw [hl2, ← hst]
    unfold gX11_next fX11_next_0
    rw [mo_g5, Option.bind_some, h5]
  generalize hs : tkS y n e = s at h21 b1 b2 ⊢
  generalize hX1 : up (S 167) 4 (nI s) = X1
  have x3 : X1 3 = nI n := by rw [← hX1, up_ne (by omega)]; exact h3
  generalize hX2 : up (up X1 8 (nI 0)) 7 (nI 0) = X2
  have y3 : X2 3 = nI n := by rw [← hX2, up_ne (by omega), up_ne (by omega)]; exact x3
  have y4 : X2 4 = nI s := by rw [← hX2, up_ne (by omega), up_ne (by omega), ← hX1, up_eq]
  have y7 : X2 7 = nI 0 := by rw [← hX2, up_eq]
  have y8 : X2 8 = nI 0 := by rw [← hX2, up_ne (by omega), up_eq]
  have yo : ∀ j, j ≠ 4 → j ≠ 7 → j ≠ 8 → X2 j = S 167 j := fun j z1 z2 z3 => by rw [← hX2, up_ne z2, up_ne z3, ← hX1, up_ne z1]
  have h31 : gX11_next 167 (hp S J T) = (if sV y n s = m1 then fX11_next_47 167 (nI s) (hp (stR (stR S 167 X2) 169 (S 169)) J T) else fX11_next_60 167 (nI s) (sV y n s) (hp (stR (stR S 167 X2) 169 (S 169)) J T)) := by
    rw [h21]
    unfold fX11_next_21
    rw [mo_p4, Option.bind_some, stS_R, stR_ne (show 167 ≠ 169 by omega), stR_eq, stR_sw (by omega), hX1]
    unfold fX11_next_28
    rw [mo_isO, Option.bind_some, c_see ht x3 (by omega), Option.bind_some]
    unfold fX11_next_31
    rw [mo_p8, Option.bind_some, stS_R, stR_ne (show 167 ≠ 169 by omega), stR_eq, stR_sw (by omega), mo_p7, Option.bind_some, stS_R, stR_ne (show 167 ≠ 169 by omega), stR_eq, stR_sw (by omega), kI_0, kI_n, hX2]
  rw [h31]
  by_cases hsn : s < n
  · have hy := (ht.2 s hsn).1
    have ev : sV y n s = nI (y s) := if_pos hsn
    have hne : ¬ sV y n s = m1 := by
      rw [ev]
      intro q
      have := congrArg Int32.toInt q
      rw [show m1.toInt = -1 by decide] at this
      have h2 : (nI (y s)).toInt = (y s : Int) := Int32.toInt_ofNat_of_lt (by omega)
      omega
    rw [if_neg hne]
    unfold fX11_next_60 fX11_next_61
    rw [c_small ht, Option.bind_some, decide_eq_true hsn, Bool.true_and]
    unfold fX11_next_64
    cases zl : ltB (y s) with
    | true =>
      have hlb := of_decide_eq_true zl
      have z59 : ¬ y s = 59 := by omega
      have eE : tkE y n s = rn (fun k => ltB (y k)) n s := by unfold tkE; rw [if_pos hsn, if_neg z59, zl, if_pos rfl]
      have eK : tkK y n s = if 8 < tkE y n s - s then 1 else 2 := by rw [eE]; unfold tkK; rw [if_pos hsn, if_neg z59, zl, if_pos rfl]
      have hE := tkE_b (y := y) b2
      rw [if_neg (show ¬ bI true = 0 by decide)]
      obtain ⟨L', a1, a2⟩ := l_n67 (S := S) (J := J) (T := T) ht (s := s) (n - s) s FU X2 (S 169) rfl (FU_lt (by omega)) b2 (Nat.le_refl _) y3 (by rw [Nat.sub_self]; exact y8) (fun i h1 h2 => by omega)
      rw [← eE] at a1 a2
      rw [a1]
      unfold fX11_next_117
      rw [mo_p5, Option.bind_some, stS_R, stR_ne (show 167 ≠ 169 by omega), stR_eq, stR_sw (by omega), mo_g8, Option.bind_some, stR_ne (show 167 ≠ 169 by omega), stR_eq, up_ne (by omega), up_eq, kB_8]
      by_cases z8 : 8 < tkE y n s - s
      · have eK1 : tkK y n s = 1 := by rw [eK, if_pos z8]
        rw [eK1, if_pos (ltn z8 (by omega))]
        refine ⟨up (up (up X2 8 (nI (tkE y n s - s))) 5 (nI (tkE y n s))) 6 (nI 1), L', ?_, by rw [up_ne (by omega), up_ne (by omega), up_ne (by omega)]; exact y4, fun z => absurd rfl z, up_eq, fun z => by omega, fun z => by omega, fun j z1 z2 z3 z4 z5 => by rw [up_ne z3, up_ne z2, up_ne z5]; exact yo j z1 z4 z5⟩
        unfold fX11_next_132 fX11_next_137
        rw [mo_p6, Option.bind_some, stS_R, stR_ne (show 167 ≠ 169 by omega), stR_eq, stR_sw (by omega), kI_1]
        rfl
      · have eK1 : tkK y n s = 2 := by rw [eK, if_neg z8]
        rw [eK1, if_neg (nltn z8 (by omega) (by omega))]
        refine ⟨up (up (up X2 8 (nI (tkE y n s - s))) 5 (nI (tkE y n s))) 6 (nI 2), L', ?_, by rw [up_ne (by omega), up_ne (by omega), up_ne (by omega)]; exact y4, fun _ => by rw [up_ne (by omega), up_eq], up_eq, fun z => by omega, fun _ => ⟨by rw [up_ne (by omega), up_ne (by omega), up_eq], fun i hi => a2 i hi (by omega)⟩, fun j z1 z2 z3 z4 z5 => by rw [up_ne z3, up_ne z2, up_ne z5]; exact yo j z1 z4 z5⟩
        unfold fX11_next_136 fX11_next_137
        rw [mo_p6, Option.bind_some, stS_R, stR_ne (show 167 ≠ 169 by omega), stR_eq, stR_sw (by omega), kI_2]
        rfl
    | false =>
      rw [if_pos (show bI false = 0 by decide)]
      unfold fX11_next_143 fX11_next_144
      rw [c_mdig ht, Option.bind_some, decide_eq_true hsn, Bool.true_and]
      unfold fX11_next_147
      cases zd : dgB (y s) with
      | true =>
        have hdb := of_decide_eq_true zd
        have z59 : ¬ y s = 59 := by omega
        have eE : tkE y n s = rn (fun k => dgB (y k)) n s := by unfold tkE; rw [if_pos hsn, if_neg z59, zl, if_neg (by decide), zd, if_pos rfl]
        have eK : tkK y n s = if 3 < tkE y n s - s then 1 else 3 := by rw [eE]; unfold tkK; rw [if_pos hsn, if_neg z59, zl, if_neg (by decide), zd, if_pos rfl]
        have hE := tkE_b (y := y) b2
        rw [if_neg (show ¬ bI true = 0 by decide)]
        have hl := l_n152 (S := S) (J := J) (T := T) (L := S 169) ht (s := s) (n - s) s FU X2 rfl (FU_lt (by omega)) b2 (Nat.le_refl _) y3 (by rw [Nat.sub_self]; exact y7)
        rw [← eE, Nat.sub_self] at hl
        unfold fX11_next_150
        rw [kI_0, hl]
        unfold fX11_next_197
        rw [mo_p5, Option.bind_some, stS_R, stR_ne (show 167 ≠ 169 by omega), stR_eq, stR_sw (by omega), kI_3]
        by_cases z8 : 3 < tkE y n s - s
        · have eK1 : tkK y n s = 1 := by rw [eK, if_pos z8]
          rw [eK1, if_pos (ltn z8 (by omega))]
          refine ⟨up (up (up X2 7 (nI (digs y s (min (tkE y n s - s) 3)))) 5 (nI (tkE y n s))) 6 (nI 1), S 169, ?_, by rw [up_ne (by omega), up_ne (by omega), up_ne (by omega)]; exact y4, fun z => absurd rfl z, up_eq, fun z => by omega, fun z => by omega, fun j z1 z2 z3 z4 z5 => by rw [up_ne z3, up_ne z2, up_ne z4]; exact yo j z1 z4 z5⟩
          unfold fX11_next_208 fX11_next_213
          rw [mo_p6, Option.bind_some, stS_R, stR_ne (show 167 ≠ 169 by omega), stR_eq, stR_sw (by omega), kI_1]
          rfl
        · have eK1 : tkK y n s = 3 := by rw [eK, if_neg z8]
          rw [eK1, if_neg (nltn z8 (by omega) (by omega))]
          refine ⟨up (up (up X2 7 (nI (digs y s (min (tkE y n s - s) 3)))) 5 (nI (tkE y n s))) 6 (nI 3), S 169, ?_, by rw [up_ne (by omega), up_ne (by omega), up_ne (by omega)]; exact y4, fun _ => by rw [up_ne (by omega), up_eq], up_eq, fun _ => by rw [up_ne (by omega), up_ne (by omega), up_eq, show min (tkE y n s - s) 3 = tkE y n s - s by omega]; rfl, fun z => by omega, fun j z1 z2 z3 z4 z5 => by rw [up_ne z3, up_ne z2, up_ne z4]; exact yo j z1 z4 z5⟩
          unfold fX11_next_212 fX11_next_213
          rw [mo_p6, Option.bind_some, stS_R, stR_ne (show 167 ≠ 169 by omega), stR_eq, stR_sw (by omega), kI_3]
          rfl
      | false =>
        rw [if_pos (show bI false = 0 by decide)]
        unfold fX11_next_219
        rw [mo_p5, Option.bind_some, stS_R, stR_ne (show 167 ≠ 169 by omega), stR_eq, stR_sw (by omega), kI_1, nI_add, ev, kB_59]
        by_cases z59 : y s = 59
        · have eE : tkE y n s = s + 1 := by unfold tkE; rw [if_pos hsn, if_pos z59]
          have eK : tkK y n s = 4 := by unfold tkK; rw [if_pos hsn, if_pos z59]
          rw [eE, eK, if_pos (show nI (y s) = nI 59 by rw [z59])]
          refine ⟨up (up X2 5 (nI (s + 1))) 6 (nI 59), S 169, ?_, by rw [up_ne (by omega), up_ne (by omega)]; exact y4, fun _ => by rw [up_ne (by omega), up_eq], up_eq, fun z => by omega, fun z => by omega, fun j z1 z2 z3 z4 z5 => by rw [up_ne z3, up_ne z2]; exact yo j z1 z4 z5⟩
          unfold fX11_next_233 fX11_next_238
          rw [mo_p6, Option.bind_some, stS_R, stR_ne (show 167 ≠ 169 by omega), stR_eq, stR_sw (by omega), z59]
          rfl
        · have eK : tkK y n s = 1 := by unfold tkK; rw [if_pos hsn, if_neg z59, zl, if_neg (by decide), zd, if_neg (by decide)]
          rw [eK, if_neg (show ¬ nI (y s) = nI 59 by rw [eq_eq (by omega) (by omega)]; exact z59)]
          refine ⟨up (up X2 5 (nI (s + 1))) 6 (nI 1), S 169, ?_, by rw [up_ne (by omega), up_ne (by omega)]; exact y4, fun z => absurd rfl z, up_eq, fun z => by omega, fun z => by omega, fun j z1 z2 z3 z4 z5 => by rw [up_ne z3, up_ne z2]; exact yo j z1 z4 z5⟩
          unfold fX11_next_237 fX11_next_238
          rw [mo_p6, Option.bind_some, stS_R, stR_ne (show 167 ≠ 169 by omega), stR_eq, stR_sw (by omega), kI_1]
          rfl
  · have eE : tkE y n s = s := by unfold tkE; rw [if_neg hsn]
    have eK : tkK y n s = 0 := by unfold tkK; rw [if_neg hsn]
    rw [eE, eK, if_pos (show sV y n s = m1 from if_neg hsn)]
    refine ⟨up (up X2 6 (nI 0)) 5 (nI s), S 169, ?_, by rw [up_ne (by omega), up_ne (by omega)]; exact y4, fun _ => up_eq, by rw [up_ne (by omega), up_eq]; rfl, fun z => by omega, fun z => by omega, fun j z1 z2 z3 z4 z5 => by rw [up_ne z2, up_ne z3]; exact yo j z1 z4 z5⟩
    unfold fX11_next_47
    rw [mo_p6, Option.bind_some, stS_R, stR_ne (show 167 ≠ 169 by omega), stR_eq, stR_sw (by omega), mo_p5, Option.bind_some, stS_R, stR_ne (show 167 ≠ 169 by omega), stR_eq, stR_sw (by omega), kI_0]
    rfl
end TKN

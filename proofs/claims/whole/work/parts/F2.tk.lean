-- THE TEXT: the class's step
section TKE
variable {S : Mem} {J : MeJ} {T : Nat → Nat} {y : Nat → Nat} {n : Nat}
set_option maxRecDepth 100000 in
set_option maxHeartbeats 400000 in
theorem tkS_b {e : Nat} (he : e ≤ n) : e ≤ tkS y n e ∧ tkS y n e ≤ n := ⟨rn_ge, rn_le he⟩
set_option maxRecDepth 100000 in
set_option maxHeartbeats 400000 in
theorem tkE_b {s : Nat} (hs : s ≤ n) : s ≤ tkE y n s ∧ tkE y n s ≤ n := by
  unfold tkE
  by_cases h : s < n
  · rw [if_pos h]
    split
    · omega
    · split
      · exact ⟨rn_ge, rn_le hs⟩
      · split
        · exact ⟨rn_ge, rn_le hs⟩
        · omega
  · rw [if_neg h]; omega
set_option maxRecDepth 100000 in
set_option maxHeartbeats 400000 in
theorem c_step (ht : tpC S y n) {e : Nat} (he : e ≤ n) (h9 : S 1 9 = nI n) (h11 : S 1 11 = nI e) : ∃ X : Row, gX8_step 1 (hp S J T) = some (hp (stR S 1 X) J T) ∧ X 10 = nI (tkS y n e) ∧ X 11 = nI (tkE y n (tkS y n e)) ∧ X 12 = nI (tkK y n (tkS y n e)) ∧ (tkK y n (tkS y n e) = 3 → X 13 = nI (tkV y n (tkS y n e))) ∧ ∀ j, j ≠ 10 → j ≠ 11 → j ≠ 12 → j ≠ 13 → X j = S 1 j := by
  have hn7 := ht.1
  obtain ⟨b1, b2⟩ := tkS_b (y := y) he
  have h46 : gX8_step 1 (hp S J T) = fX8_step_46 1 (hp (stR S 1 (up (S 1) 10 (nI (tkS y n e)))) J T) := by
    have hl := l_sp (S := S) (J := J) (T := T) ht (n - e) e FU (up (S 1) 10 (nI e)) rfl (FU_lt (by omega)) he up_eq (by rw [up_ne (by omega)]; exact h9)
    rw [up_up] at hl
    have hl2 : fX8_step_46 1 (hp (stR S 1 (up (S 1) 10 (nI (tkS y n e)))) J T) = lX8_step_8 FU 1 (hp (stR S 1 (up (S 1) 10 (nI e))) J T) := hl.symm
    rw [hl2]
    unfold gX8_step fX8_step_0
    rw [rd_g11, Option.bind_some, rd_p10, Option.bind_some, stS_R, h11]
  generalize hs : tkS y n e = s at h46 b1 b2 ⊢
  generalize hX2 : up (up (S 1) 10 (nI s)) 11 (nI s) = X2
  have x10 : X2 10 = nI s := by rw [← hX2, up_ne (by omega), up_eq]
  have x11 : X2 11 = nI s := by rw [← hX2, up_eq]
  have x9 : X2 9 = nI n := by rw [← hX2, up_ne (by omega), up_ne (by omega)]; exact h9
  have xo : ∀ j, j ≠ 10 → j ≠ 11 → X2 j = S 1 j := fun j z1 z2 => by rw [← hX2, up_ne z2, up_ne z1]
  by_cases hsn : s < n
  · obtain ⟨hy, hb⟩ := ht.2 s hsn
    have h59 := bv_59 (y s) hy
    have h73 : gX8_step 1 (hp S J T) = fX8_step_73 1 (hp (stR S 1 X2) J T) := by
      rw [h46]
      unfold fX8_step_46
      rw [rd_g10, Option.bind_some, rd_p11, Option.bind_some, stS_R, stR_stR, stR_eq, up_eq, hX2, rd_g10, Option.bind_some, rd_g9, Option.bind_some, stR_eq, x10, x9, if_pos (ltn hsn (by omega))]
    have hrd : ∀ K : Int32 → Option aH, ((gFR (hp (stR S 1 X2) J T) 8 1 3).bind fun t1 => (gFI (hp (stR S 1 X2) J T) 8 1 10).bind fun t2 => (aRB ((hp (stR S 1 X2) J T)[t1]?) t2).bind fun t3 => K t3) = K (byv (y s)) := fun K => by
      rw [rd_f3, Option.bind_some, rd_g10, Option.bind_some, stR_eq, x10, rd_r3 (by omega), Option.bind_some, stR_ne (show 2 ≠ 1 by omega), hb]
    rw [h73]
    unfold fX8_step_73
    rw [hrd (fun t3 => if t3 = kB 59 then fX8_step_87 1 (hp (stR S 1 X2) J T) else fX8_step_105 1 (hp (stR S 1 X2) J T)), kB_59]
    by_cases z59 : y s = 59
    · have eK : tkK y n s = 4 := by unfold tkK; rw [if_pos hsn, if_pos z59]
      have eE : tkE y n s = s + 1 := by unfold tkE; rw [if_pos hsn, if_pos z59]
      rw [if_pos (h59.mpr z59), eK, eE]
      refine ⟨up (up X2 12 (nI 4)) 11 (nI (s + 1)), ?_, by rw [up_ne (by omega), up_ne (by omega)]; exact x10, up_eq, by rw [up_ne (by omega), up_eq], fun z => by omega, fun j z1 z2 z3 z4 => by rw [up_ne z2, up_ne z3]; exact xo j z1 z2⟩
      unfold fX8_step_87
      rw [rd_p12, Option.bind_some, stS_R, stR_stR, stR_eq, rd_g10, Option.bind_some, stR_eq, up_ne (by omega), x10, rd_p11, Option.bind_some, stS_R, stR_stR, stR_eq, kI_4, kI_1, nI_add]
      rfl
    · rw [if_neg (fun q => z59 (h59.mp q))]
      unfold fX8_step_105
      rw [hrd (fun t3 => fX8_step_114 1 t3 (hp (stR S 1 X2) J T))]
      unfold fX8_step_114
      rw [c_isLet hy, Option.bind_some]
      unfold fX8_step_117
      cases zl : ltB (y s) with
      | true =>
        have eE : tkE y n s = rn (fun k => ltB (y k)) n s := by unfold tkE; rw [if_pos hsn, if_neg z59, zl, if_pos rfl]
        have eK : tkK y n s = if 8 < tkE y n s - s then 1 else 2 := by rw [eE]; unfold tkK; rw [if_pos hsn, if_neg z59, zl, if_pos rfl]
        have hE := tkE_b (y := y) b2
        rw [if_neg (show ¬ bI true = 0 by decide)]
        have hl := l_tw (S := S) (J := J) (T := T) ht (n - s) s FU X2 rfl (FU_lt (by omega)) b2 x11 x9
        rw [← eE] at hl
        have hsb : nI (tkE y n s) - nI s = nI (tkE y n s - s) := nI_sub hE.1
        refine ⟨up (up X2 11 (nI (tkE y n s))) 12 (nI (tkK y n s)), ?_, by rw [up_ne (by omega), up_ne (by omega)]; exact x10, by rw [up_ne (by omega), up_eq], up_eq, fun z => by rw [eK] at z; split at z <;> omega, fun j z1 z2 z3 z4 => by rw [up_ne z3, up_ne z2]; exact xo j z1 z2⟩
        unfold fX8_step_120 fX8_step_121
        have hw : gX8_takeWord 1 (hp (stR S 1 X2) J T) = some (hp (stR S 1 (up (up X2 11 (nI (tkE y n s))) 12 (nI (tkK y n s)))) J T) := by
          show lX8_takeWord_0 FU 1 (hp (stR S 1 X2) J T) = _
          rw [hl]
          unfold fX8_takeWord_39
          rw [rd_g11, Option.bind_some, rd_g10, Option.bind_some, stR_eq, up_eq, up_ne (by omega), x10, hsb, kB_8]
          by_cases z8 : 8 < tkE y n s - s
          · rw [if_pos (ltn z8 (by omega)), eK, if_pos z8]
            unfold fX8_takeWord_58 fX8_takeWord_59
            rw [rd_p12, Option.bind_some, stS_R, stR_stR, stR_eq, kI_1]
          · rw [if_neg (nltn z8 (by omega) (by omega)), eK, if_neg z8]
            unfold fX8_takeWord_54 fX8_takeWord_59
            rw [rd_p12, Option.bind_some, stS_R, stR_stR, stR_eq, kI_2]
        rw [rd_isO, Option.bind_some, hw, Option.bind_some]
        rfl
      | false =>
        rw [if_pos (show bI false = 0 by decide)]
        unfold fX8_step_127
        rw [hrd (fun t3 => fX8_step_136 1 t3 (hp (stR S 1 X2) J T))]
        unfold fX8_step_136
        rw [c_isDig hy, Option.bind_some]
        unfold fX8_step_139
        cases zd : dgB (y s) with
        | true =>
          have eE : tkE y n s = rn (fun k => dgB (y k)) n s := by unfold tkE; rw [if_pos hsn, if_neg z59, zl, if_neg (by decide), zd, if_pos rfl]
          have eK : tkK y n s = if 3 < tkE y n s - s then 1 else 3 := by rw [eE]; unfold tkK; rw [if_pos hsn, if_neg z59, zl, if_neg (by decide), zd, if_pos rfl]
          have hE := tkE_b (y := y) b2
          rw [if_neg (show ¬ bI true = 0 by decide)]
          have hl := l_th (S := S) (J := J) (T := T) ht (n - s) s FU X2 rfl (FU_lt (by omega)) b2 x11 x9
          have hin : ∀ i, s ≤ i → i < tkE y n s → dgB (y i) = true := fun i z1 z2 => by rw [eE] at z2; exact (rn_in (p := fun k => dgB (y k)) z1 z2).1
          rw [← eE] at hl
          have hsb : nI (tkE y n s) - nI s = nI (tkE y n s - s) := nI_sub hE.1
          by_cases z8 : 3 < tkE y n s - s
          · have eK1 : tkK y n s = 1 := by rw [eK, if_pos z8]
            refine ⟨up (up (up X2 11 (nI (tkE y n s))) 12 (nI 1)) 13 (nI 0), ?_, by rw [up_ne (by omega), up_ne (by omega), up_ne (by omega)]; exact x10, by rw [up_ne (by omega), up_ne (by omega), up_eq], by rw [up_ne (by omega), up_eq, eK1], fun z => by omega, fun j z1 z2 z3 z4 => by rw [up_ne z4, up_ne z3, up_ne z2]; exact xo j z1 z2⟩
            unfold fX8_step_142 fX8_step_143
            have hw : gX8_takeWhole 1 (hp (stR S 1 X2) J T) = some (hp (stR S 1 (up (up (up X2 11 (nI (tkE y n s))) 12 (nI 1)) 13 (nI 0))) J T) := by
              show lX8_takeWhole_0 FU 1 (hp (stR S 1 X2) J T) = _
              rw [hl]
              unfold fX8_takeWhole_39
              rw [rd_g11, Option.bind_some, rd_g10, Option.bind_some, stR_eq, up_eq, up_ne (by omega), x10, hsb, kI_3, if_pos (ltn z8 (by omega))]
              unfold fX8_takeWhole_57 fX8_takeWhole_58
              rw [rd_p12, Option.bind_some, stS_R, stR_stR, stR_eq, rd_p13, Option.bind_some, stS_R, stR_stR, stR_eq, rd_g10, Option.bind_some, stR_eq, up_ne (by omega), up_ne (by omega), up_ne (by omega), x10, kI_1, kI_0]
              obtain ⟨g, hg⟩ : ∃ g, FU = g + 1 := ⟨FU - 1, by have := FU_lt (n := 0) (by omega); omega⟩
              rw [hg]
              unfold lX8_takeWhole_71 fX8_takeWhole_71
              rw [rd_g11, Option.bind_some, stR_eq, up_ne (by omega), up_ne (by omega), up_eq, if_pos (ltn (show s < tkE y n s by omega) (by omega))]
              unfold fX8_takeWhole_79
              rw [rd_g12, Option.bind_some, stR_eq, up_ne (by omega), up_eq, kI_3, if_neg (by decide)]
              rfl
            rw [rd_isO, Option.bind_some, hw, Option.bind_some]
            rfl
          · have eK1 : tkK y n s = 3 := by rw [eK, if_neg z8]
            generalize hX4 : up (up (up X2 11 (nI (tkE y n s))) 12 (nI 3)) 13 (nI 0) = X4
            have hv := l_tv (S := S) (J := J) (T := T) ht (s := s) (e := tkE y n s) hE.2 (by omega) hin (tkE y n s - s) s FU X4 (by omega) (by omega) (FU_lt (by omega)) (by rw [← hX4, up_ne (by omega), up_ne (by omega), up_eq]) (by rw [← hX4, up_ne (by omega), up_eq]) (by rw [← hX4, up_eq, Nat.sub_self]; rfl)
            refine ⟨up X4 13 (nI (tkV y n s)), ?_, by rw [up_ne (by omega), ← hX4, up_ne (by omega), up_ne (by omega), up_ne (by omega)]; exact x10, by rw [up_ne (by omega), ← hX4, up_ne (by omega), up_ne (by omega), up_eq], by rw [up_ne (by omega), ← hX4, up_ne (by omega), up_eq, eK1], fun _ => up_eq, fun j z1 z2 z3 z4 => by rw [up_ne z4, ← hX4, up_ne z4, up_ne z3, up_ne z2]; exact xo j z1 z2⟩
            unfold fX8_step_142 fX8_step_143
            have hw : gX8_takeWhole 1 (hp (stR S 1 X2) J T) = some (hp (stR S 1 (up X4 13 (nI (tkV y n s)))) J T) := by
              show lX8_takeWhole_0 FU 1 (hp (stR S 1 X2) J T) = _
              rw [hl]
              unfold fX8_takeWhole_39
              rw [rd_g11, Option.bind_some, rd_g10, Option.bind_some, stR_eq, up_eq, up_ne (by omega), x10, hsb, kI_3, if_neg (nltn z8 (by omega) (by omega))]
              unfold fX8_takeWhole_53 fX8_takeWhole_58
              rw [rd_p12, Option.bind_some, stS_R, stR_stR, stR_eq, rd_p13, Option.bind_some, stS_R, stR_stR, stR_eq, rd_g10, Option.bind_some, stR_eq, kI_3, kI_0, hX4, ← hX4, up_ne (by omega), up_ne (by omega), up_ne (by omega), x10, hX4]
              exact hv
            rw [rd_isO, Option.bind_some, hw, Option.bind_some]
            rfl
        | false =>
          have eE : tkE y n s = s := by unfold tkE; rw [if_pos hsn, if_neg z59, zl, if_neg (by decide), zd, if_neg (by decide)]
          have eK : tkK y n s = 1 := by unfold tkK; rw [if_pos hsn, if_neg z59, zl, if_neg (by decide), zd, if_neg (by decide)]
          rw [if_pos (show bI false = 0 by decide), eE, eK]
          refine ⟨up X2 12 (nI 1), ?_, by rw [up_ne (by omega)]; exact x10, by rw [up_ne (by omega)]; exact x11, up_eq, fun z => by omega, fun j z1 z2 z3 z4 => by rw [up_ne z3]; exact xo j z1 z2⟩
          unfold fX8_step_149
          rw [rd_p12, Option.bind_some, stS_R, stR_stR, stR_eq, kI_1]
          rfl
  · have eE : tkE y n s = s := by unfold tkE; rw [if_neg hsn]
    have eK : tkK y n s = 0 := by unfold tkK; rw [if_neg hsn]
    rw [eE, eK]
    refine ⟨up X2 12 (nI 0), ?_, by rw [up_ne (by omega)]; exact x10, by rw [up_ne (by omega)]; exact x11, up_eq, fun z => by omega, fun j z1 z2 z3 z4 => by rw [up_ne z3]; exact xo j z1 z2⟩
    rw [h46]
    unfold fX8_step_46
    rw [rd_g10, Option.bind_some, rd_p11, Option.bind_some, stS_R, stR_stR, stR_eq, up_eq, hX2, rd_g10, Option.bind_some, rd_g9, Option.bind_some, stR_eq, x10, x9, if_neg (nltn hsn (by omega) (by omega))]
    unfold fX8_step_65
    rw [rd_p12, Option.bind_some, stS_R, stR_stR, stR_eq, kI_0]
    rfl
end TKE

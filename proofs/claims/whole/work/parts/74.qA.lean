-- SIZES; SHAME
section Q10
variable {S S1 : Mem} {J : MeJ} {T : Nat → Nat} {t a w P N F U E : Nat} {ht : Bool}
set_option maxRecDepth 100000 in
set_option maxHeartbeats 400000 in
theorem inB_o {v : Int32} {hi : Nat} (hh : hi < 5000) (h : inB v (nI 0) (nI 11) = false) (hle : hi ≤ 11) : inB v (nI 0) (nI hi) = false := by
  cases e : inB v (nI 0) (nI hi) with
  | false => rfl
  | true =>
    obtain ⟨k, k1, k2, rfl⟩ := inB_t hh (by omega) e
    rw [inB_n (by omega) (by omega) (by omega)] at h
    cases h
set_option maxRecDepth 100000 in
set_option maxHeartbeats 400000 in
theorem q_size (h : Rl S T) (p : Int32) : bth (fun h => gX10_size 0 p h) (fun h => gX11_size 167 p h) S J T := by
  obtain ⟨h0, ⟨b, hb, hb1, hb2, hb3⟩, h2, h3⟩ := id h
  obtain ⟨t1, t2, t3⟩ := tT_pl h0
  cases hin : inB p (nI 0) (nI 11) with
  | false =>
    have hne : ∀ j, j ≤ 11 → (p = nI j) = False := fun j hj => eq_false (fun z => by
      rw [z, inB_n (by omega) hj (by omega)] at hin
      cases hin)
    have i10 := inB_o (hi := 10) (by omega) hin (by omega)
    have i7 := inB_o (hi := 7) (by omega) hin (by omega)
    refine bth_0 h (v := m1) ?_ ?_
    · simp (disch := omega) only [gX10_size, fX10_size_0, fX10_size_1, fX10_size_64, fX10_size_72, fX10_size_80, fX10_size_88, fX10_size_96, fX10_size_104, fX10_size_112, fX10_size_120, fX10_size_128, fX10_size_136, fX10_size_144, fX10_size_152, fX10_size_160, kc0, kc1, kc2, kc3, kc4, kc5, kc6, kc7, kc8, kc9, kc10, kc11, lt_f9, tl_g0 t1, tl_g1 t1, tl_g2 t1, tl_g3 t1, tl_g4 t1, tl_g5 t1, tl_g6 t1, tl_g7 t1, lt_f8, lt_f5, hi_g0, lt_f6, im_g0, lt_f0, rd_g0, kI_n, Option.bind_some, n35, n9, n19, n51, n59, nI_add, ix2, ix8, ix22, ix5, ↓reduceIte, hne, kI_n]
    · rcases h3 with ⟨z1, _⟩ | ⟨z1, _⟩
      · simp (disch := omega) only [gX11_size, fX11_size_0, fX11_size_11, fX11_size_16, fX11_size_23, fX11_size_27, fX11_size_30, fX11_size_33, fX11_size_37, fX11_size_38, fX11_size_39, fX11_size_43, fX11_size_46, fX11_size_49, fX11_size_56, fX11_size_62, fX11_size_72, fX11_size_78, fX11_size_85, fX11_size_91, fX11_size_98, fX11_size_99, kI_0, mo_p0, kB_11, mo_g2, mo_g14, kB_10, kI_n, kB_7, mo_f15, mo_r15, kB_8, mo_f19, mo_r19, kB_13, kB_9, mo_g23, mo_g24, Option.bind_some, n35, n9, n19, n51, n59, nI_add, ix2, ix8, ix22, ix5, ↓reduceIte, stS_R, stR_eq, up_ne, hne, z1, n1_0, c_in, i10, i7, bI_f, n0_0]
      · simp (disch := omega) only [gX11_size, fX11_size_0, fX11_size_11, fX11_size_16, fX11_size_23, fX11_size_27, fX11_size_30, fX11_size_33, fX11_size_37, fX11_size_38, fX11_size_39, fX11_size_43, fX11_size_46, fX11_size_49, fX11_size_56, fX11_size_62, fX11_size_72, fX11_size_78, fX11_size_85, fX11_size_91, fX11_size_98, fX11_size_99, kI_0, mo_p0, kB_11, mo_g2, mo_g14, kB_10, kI_n, kB_7, mo_f15, mo_r15, kB_8, mo_f19, mo_r19, kB_13, kB_9, mo_g23, mo_g24, Option.bind_some, n35, n9, n19, n51, n59, nI_add, ix2, ix8, ix22, ix5, ↓reduceIte, stS_R, stR_eq, up_ne, hne, z1, n1_0, c_in, i10, i7, bI_f, n0_0]
  | true =>
    obtain ⟨k, k1, k2, rfl⟩ := inB_t (by omega) (by omega) hin
    by_cases h11 : k = 11
    · subst h11
      refine bth_0 h (v := nI b) ?_ ?_
      · simp (disch := omega) only [gX10_size, fX10_size_0, fX10_size_1, fX10_size_64, fX10_size_72, fX10_size_80, fX10_size_88, fX10_size_96, fX10_size_104, fX10_size_112, fX10_size_120, fX10_size_128, fX10_size_136, fX10_size_144, fX10_size_152, fX10_size_160, kc0, kc1, kc2, kc3, kc4, kc5, kc6, kc7, kc8, kc9, kc10, kc11, lt_f9, tl_g0 t1, tl_g1 t1, tl_g2 t1, tl_g3 t1, tl_g4 t1, tl_g5 t1, tl_g6 t1, tl_g7 t1, lt_f8, lt_f5, hi_g0, lt_f6, im_g0, lt_f0, rd_g0, kI_n, Option.bind_some, n35, n9, n19, n51, n59, nI_add, ix2, ix8, ix22, ix5, ↓reduceIte, eq_eq, hb1, Nat.reduceEqDiff]
      · simp (disch := omega) only [gX11_size, fX11_size_0, fX11_size_11, fX11_size_16, fX11_size_23, fX11_size_27, fX11_size_30, fX11_size_33, fX11_size_37, fX11_size_38, fX11_size_39, fX11_size_43, fX11_size_46, fX11_size_49, fX11_size_56, fX11_size_62, fX11_size_72, fX11_size_78, fX11_size_85, fX11_size_91, fX11_size_98, fX11_size_99, kI_0, mo_p0, kB_11, mo_g2, mo_g14, kB_10, kI_n, kB_7, mo_f15, mo_r15, kB_8, mo_f19, mo_r19, kB_13, kB_9, mo_g23, mo_g24, Option.bind_some, n35, n9, n19, n51, n59, nI_add, ix2, ix8, ix22, ix5, ↓reduceIte, stS_R, stR_eq, up_ne, eq_eq, hb2]
    · rcases h3 with ⟨z1, P, N, F, U, E, y, _⟩ | ⟨z1, y⟩
      · obtain ⟨y1, y2, y3, y4, y5, y6, ⟨u, x, w1, w2, w3, w4, w5, w6⟩, ⟨v, v1, v2, v3, v4⟩⟩ := y
        by_cases h7 : k ≤ 7
        · have hk := y2.1 k (by omega)
          refine bth_0 h (v := S 170 k) ?_ ?_
          · have : k = 0 ∨ k = 1 ∨ k = 2 ∨ k = 3 ∨ k = 4 ∨ k = 5 ∨ k = 6 ∨ k = 7 := by omega
            rw [← hk]
            rcases this with rfl | rfl | rfl | rfl | rfl | rfl | rfl | rfl <;> simp (disch := omega) only [gX10_size, fX10_size_0, fX10_size_1, fX10_size_64, fX10_size_72, fX10_size_80, fX10_size_88, fX10_size_96, fX10_size_104, fX10_size_112, fX10_size_120, fX10_size_128, fX10_size_136, fX10_size_144, fX10_size_152, fX10_size_160, kc0, kc1, kc2, kc3, kc4, kc5, kc6, kc7, kc8, kc9, kc10, kc11, lt_f9, tl_g0 t1, tl_g1 t1, tl_g2 t1, tl_g3 t1, tl_g4 t1, tl_g5 t1, tl_g6 t1, tl_g7 t1, lt_f8, lt_f5, hi_g0, lt_f6, im_g0, lt_f0, rd_g0, kI_n, Option.bind_some, n35, n9, n19, n51, n59, nI_add, ix2, ix8, ix22, ix5, ↓reduceIte, eq_eq, Nat.reduceEqDiff]
          · simp (disch := omega) only [gX11_size, fX11_size_0, fX11_size_11, fX11_size_16, fX11_size_23, fX11_size_27, fX11_size_30, fX11_size_33, fX11_size_37, fX11_size_38, fX11_size_39, fX11_size_43, fX11_size_46, fX11_size_49, fX11_size_56, fX11_size_62, fX11_size_72, fX11_size_78, fX11_size_85, fX11_size_91, fX11_size_98, fX11_size_99, kI_0, mo_p0, kB_11, mo_g2, mo_g14, kB_10, kI_n, kB_7, mo_f15, mo_r15, kB_8, mo_f19, mo_r19, kB_13, kB_9, mo_g23, mo_g24, Option.bind_some, n35, n9, n19, n51, n59, nI_add, ix2, ix8, ix22, ix5, ↓reduceIte, stS_R, stR_eq, up_ne, eq_eq, h11, z1, n1_0, c_in, inB_n, bI_t, stR_ne]
        · have : k = 8 ∨ k = 9 ∨ k = 10 := by omega
          have i8 : ∀ k, 7 < k → k < 30 → inB (nI k) (nI 0) (nI 7) = false := fun k hk hk3 => by
            cases e : inB (nI k) (nI 0) (nI 7) with
            | false => rfl
            | true =>
              obtain ⟨j, j1, j2, j3⟩ := inB_t (by omega) (by omega) e
              rw [eq_eq (by omega) (by omega)] at j3
              omega
          rcases this with rfl | rfl | rfl
          · have e := y5.2.1 13 (by omega) (by omega)
            refine bth_0 h (v := S 174 13) ?_ ?_
            · rw [← e]
              simp (disch := omega) only [gX10_size, fX10_size_0, fX10_size_1, fX10_size_64, fX10_size_72, fX10_size_80, fX10_size_88, fX10_size_96, fX10_size_104, fX10_size_112, fX10_size_120, fX10_size_128, fX10_size_136, fX10_size_144, fX10_size_152, fX10_size_160, kc0, kc1, kc2, kc3, kc4, kc5, kc6, kc7, kc8, kc9, kc10, kc11, lt_f9, tl_g0 t1, tl_g1 t1, tl_g2 t1, tl_g3 t1, tl_g4 t1, tl_g5 t1, tl_g6 t1, tl_g7 t1, lt_f8, pl_g6 plA_139, lt_f5, hi_g0, lt_f6, im_g0, lt_f0, rd_g0, kI_n, Option.bind_some, n35, n9, n19, n51, n59, nI_add, ix2, ix8, ix22, ix5, ↓reduceIte, eq_eq, Nat.reduceEqDiff]
            · simp (disch := omega) only [gX11_size, fX11_size_0, fX11_size_11, fX11_size_16, fX11_size_23, fX11_size_27, fX11_size_30, fX11_size_33, fX11_size_37, fX11_size_38, fX11_size_39, fX11_size_43, fX11_size_46, fX11_size_49, fX11_size_56, fX11_size_62, fX11_size_72, fX11_size_78, fX11_size_85, fX11_size_91, fX11_size_98, fX11_size_99, kI_0, mo_p0, kB_11, mo_g2, mo_g14, kB_10, kI_n, kB_7, mo_f15, mo_r15, kB_8, mo_f19, mo_r19, kB_13, kB_9, mo_g23, mo_g24, Option.bind_some, n35, n9, n19, n51, n59, nI_add, ix2, ix8, ix22, ix5, ↓reduceIte, stS_R, stR_eq, up_ne, eq_eq, Nat.reduceEqDiff, z1, n1_0, c_in, i8, bI_f, n0_0, stR_ne]
          · refine bth_0 h (v := nI u) ?_ ?_
            · simp (disch := omega) only [gX10_size, fX10_size_0, fX10_size_1, fX10_size_64, fX10_size_72, fX10_size_80, fX10_size_88, fX10_size_96, fX10_size_104, fX10_size_112, fX10_size_120, fX10_size_128, fX10_size_136, fX10_size_144, fX10_size_152, fX10_size_160, kc0, kc1, kc2, kc3, kc4, kc5, kc6, kc7, kc8, kc9, kc10, kc11, lt_f9, tl_g0 t1, tl_g1 t1, tl_g2 t1, tl_g3 t1, tl_g4 t1, tl_g5 t1, tl_g6 t1, tl_g7 t1, lt_f8, pl_g6 plA_139, lt_f5, hi_g0, lt_f6, im_g0, lt_f0, rd_g0, kI_n, Option.bind_some, n35, n9, n19, n51, n59, nI_add, ix2, ix8, ix22, ix5, ↓reduceIte, eq_eq, Nat.reduceEqDiff, w3]
            · simp (disch := omega) only [gX11_size, fX11_size_0, fX11_size_11, fX11_size_16, fX11_size_23, fX11_size_27, fX11_size_30, fX11_size_33, fX11_size_37, fX11_size_38, fX11_size_39, fX11_size_43, fX11_size_46, fX11_size_49, fX11_size_56, fX11_size_62, fX11_size_72, fX11_size_78, fX11_size_85, fX11_size_91, fX11_size_98, fX11_size_99, kI_0, mo_p0, kB_11, mo_g2, mo_g14, kB_10, kI_n, kB_7, mo_f15, mo_r15, kB_8, mo_f19, mo_r19, kB_13, kB_9, mo_g23, mo_g24, Option.bind_some, n35, n9, n19, n51, n59, nI_add, ix2, ix8, ix22, ix5, ↓reduceIte, stS_R, stR_eq, up_ne, eq_eq, Nat.reduceEqDiff, z1, n1_0, c_in, i8, bI_f, n0_0, stR_ne, w5]
          · refine bth_0 h (v := nI v) ?_ ?_
            · simp (disch := omega) only [gX10_size, fX10_size_0, fX10_size_1, fX10_size_64, fX10_size_72, fX10_size_80, fX10_size_88, fX10_size_96, fX10_size_104, fX10_size_112, fX10_size_120, fX10_size_128, fX10_size_136, fX10_size_144, fX10_size_152, fX10_size_160, kc0, kc1, kc2, kc3, kc4, kc5, kc6, kc7, kc8, kc9, kc10, kc11, lt_f9, tl_g0 t1, tl_g1 t1, tl_g2 t1, tl_g3 t1, tl_g4 t1, tl_g5 t1, tl_g6 t1, tl_g7 t1, lt_f8, pl_g6 plA_139, lt_f5, hi_g0, lt_f6, im_g0, lt_f0, rd_g0, kI_n, Option.bind_some, n35, n9, n19, n51, n59, nI_add, ix2, ix8, ix22, ix5, ↓reduceIte, eq_eq, Nat.reduceEqDiff, v2]
            · simp (disch := omega) only [gX11_size, fX11_size_0, fX11_size_11, fX11_size_16, fX11_size_23, fX11_size_27, fX11_size_30, fX11_size_33, fX11_size_37, fX11_size_38, fX11_size_39, fX11_size_43, fX11_size_46, fX11_size_49, fX11_size_56, fX11_size_62, fX11_size_72, fX11_size_78, fX11_size_85, fX11_size_91, fX11_size_98, fX11_size_99, kI_0, mo_p0, kB_11, mo_g2, mo_g14, kB_10, kI_n, kB_7, mo_f15, mo_r15, kB_8, mo_f19, mo_r19, kB_13, kB_9, mo_g23, mo_g24, Option.bind_some, n35, n9, n19, n51, n59, nI_add, ix2, ix8, ix22, ix5, ↓reduceIte, stS_R, stR_eq, up_ne, eq_eq, Nat.reduceEqDiff, z1, n1_0, c_in, i8, bI_f, n0_0, stR_ne, v3]
      · obtain ⟨y1, y2, y3, y4, y5, y6, y7⟩ := y
        refine bth_0 h (v := nI 0) ?_ ?_
        · have : k = 0 ∨ k = 1 ∨ k = 2 ∨ k = 3 ∨ k = 4 ∨ k = 5 ∨ k = 6 ∨ k = 7 ∨ k = 8 ∨ k = 9 ∨ k = 10 := by omega
          rcases this with rfl | rfl | rfl | rfl | rfl | rfl | rfl | rfl | rfl | rfl | rfl <;> simp (disch := omega) only [gX10_size, fX10_size_0, fX10_size_1, fX10_size_64, fX10_size_72, fX10_size_80, fX10_size_88, fX10_size_96, fX10_size_104, fX10_size_112, fX10_size_120, fX10_size_128, fX10_size_136, fX10_size_144, fX10_size_152, fX10_size_160, kc0, kc1, kc2, kc3, kc4, kc5, kc6, kc7, kc8, kc9, kc10, kc11, lt_f9, tl_g0 t1, tl_g1 t1, tl_g2 t1, tl_g3 t1, tl_g4 t1, tl_g5 t1, tl_g6 t1, tl_g7 t1, lt_f8, pl_g6 plA_139, lt_f5, hi_g0, lt_f6, im_g0, lt_f0, rd_g0, kI_n, Option.bind_some, n35, n9, n19, n51, n59, nI_add, ix2, ix8, ix22, ix5, ↓reduceIte, eq_eq, Nat.reduceEqDiff, y1, y2, y3, y5]
        · simp (disch := omega) only [gX11_size, fX11_size_0, fX11_size_11, fX11_size_16, fX11_size_23, fX11_size_27, fX11_size_30, fX11_size_33, fX11_size_37, fX11_size_38, fX11_size_39, fX11_size_43, fX11_size_46, fX11_size_49, fX11_size_56, fX11_size_62, fX11_size_72, fX11_size_78, fX11_size_85, fX11_size_91, fX11_size_98, fX11_size_99, kI_0, mo_p0, kB_11, mo_g2, mo_g14, kB_10, kI_n, kB_7, mo_f15, mo_r15, kB_8, mo_f19, mo_r19, kB_13, kB_9, mo_g23, mo_g24, Option.bind_some, n35, n9, n19, n51, n59, nI_add, ix2, ix8, ix22, ix5, ↓reduceIte, stS_R, stR_eq, up_ne, eq_eq, h11, z1, n1_0, n0_0, c_in, inB_n, bI_t]
end Q10

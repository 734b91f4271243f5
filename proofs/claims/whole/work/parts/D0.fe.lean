-- FEED
def by8 (x : Int32) : Int32 := vp_nar .byte x.toInt8.toInt32
set_option maxRecDepth 100000 in
set_option maxHeartbeats 400000 in
theorem by8_ok (x : Int32) : ∃ y, y < 256 ∧ x &&& nI 255 = nI y ∧ by8 x = (nI y).toInt8.toInt32 := by
  have hb : ∀ i, i < 8 → (nI 255).toBitVec.getLsbD i = true := by decide
  have e : nI (x &&& nI 255).toBitVec.toNat = x &&& nI 255 := Int32.toBitVec_inj.mp (by
    show BitVec.ofNat 32 (x &&& nI 255).toBitVec.toNat = _
    exact BitVec.ofNat_toNat _ _ |>.trans (BitVec.setWidth_eq _))
  refine ⟨(x &&& nI 255).toBitVec.toNat, ?_, e.symm, ?_⟩
  · rw [Int32.toBitVec_and, BitVec.toNat_and]
    have : (nI 255).toBitVec.toNat = 255 := by decide
    rw [this]
    exact Nat.lt_of_le_of_lt Nat.and_le_right (by omega)
  · rw [e]
    unfold by8
    rw [vp_nar_byte, Int8.toInt8_toInt32]
    refine congrArg Int8.toInt32 (Int8.toBitVec_inj.mp ?_)
    rw [Int32.toBitVec_toInt8, Int32.toBitVec_toInt8, Int32.toBitVec_and]
    refine BitVec.eq_of_getLsbD_eq (fun i hi => ?_)
    rw [BitVec.getLsbD_signExtend, BitVec.getLsbD_signExtend, if_pos (by omega), if_pos (by omega), BitVec.getLsbD_and, hb i hi, Bool.and_true]
def wrd (a b c d e : Int32) (i : Nat) : Int32 := if i = 0 then a else if i = 1 then b else if i = 2 then c else if i = 3 then d else e
def sfd (a b c d e : Int32) (k : Nat) : Int32 := wrd a b c d e (k / 4) >>> (nI (24 - 8 * (k % 4)) &&& 31)
def rwF (R : Row) (b : Nat) (f : Nat → Int32) (k : Nat) : Row := fun j => if b ≤ j ∧ j < b + k then f (j - b) else R j
set_option maxRecDepth 100000 in
set_option maxHeartbeats 400000 in
theorem rwF_0 (R : Row) (b : Nat) (f : Nat → Int32) : rwF R b f 0 = R := by funext j; exact if_neg (by omega)
set_option maxRecDepth 100000 in
set_option maxHeartbeats 400000 in
theorem rwF_s (R : Row) (b : Nat) (f : Nat → Int32) (k : Nat) : up (rwF R b f k) (b + k) (f k) = rwF R b f (k + 1) := by
  funext j
  unfold up rwF
  by_cases h : j = b + k
  · have h2 : b ≤ j ∧ j < b + (k + 1) := by omega
    rw [if_pos h, if_pos h2, show j - b = k by omega]
  · rw [if_neg h]
    by_cases h2 : b ≤ j ∧ j < b + k
    · have h3 : b ≤ j ∧ j < b + (k + 1) := by omega
      rw [if_pos h2, if_pos h3]
    · have h3 : ¬ (b ≤ j ∧ j < b + (k + 1)) := by omega
      rw [if_neg h2, if_neg h3]
set_option maxRecDepth 100000 in
set_option maxHeartbeats 400000 in
theorem up_pt {R : Row} {i : Nat} {x : Int32} (h : R i = x) : up R i x = R := by rw [← h]; exact up_self
section FEED
variable {S : Mem} {J : MeJ} {T : Nat → Nat} {va vb vc vd ve : Int32}
def fM (S : Mem) (b : Nat) (f : Nat → Int32) (k : Nat) : Mem := stR (stR S 2 (rwF (S 2) b f k)) 1 (up (S 1) 0 (nI (b + k)))
set_option maxRecDepth 100000 in
set_option maxHeartbeats 400000 in
theorem s_app {b i r g : Nat} (hb : b + 20 ≤ 700) (hi : i < 5) (hr : r < 4) : lX8_append_3 (g + 1) 1 (wrd va vb vc vd ve i) (nI (24 - 8 * r)) (hp (fM S b (fun k => by8 (sfd va vb vc vd ve k)) (4 * i + r)) J T) = lX8_append_3 g 1 (wrd va vb vc vd ve i) (nI (24 - 8 * r) + kI (-8)) (hp (fM S b (fun k => by8 (sfd va vb vc vd ve k)) (4 * i + (r + 1))) J T) := by
  have e1 : sfd va vb vc vd ve (4 * i + r) = wrd va vb vc vd ve i >>> (nI (24 - 8 * r) &&& 31) := by
    unfold sfd
    rw [show (4 * i + r) / 4 = i by omega, show (4 * i + r) % 4 = r by omega]
  have h7 : b + (4 * i + r) < 700 := by omega
  have es := rwF_s (S 2) b (fun k => by8 (sfd va vb vc vd ve k)) (4 * i + r)
  rw [e1] at es
  conv => lhs; unfold lX8_append_3
  unfold fM
  rw [show 4 * i + (r + 1) = 4 * i + r + 1 by omega, ← es]
  simp (disch := omega) only [fX8_append_3, fX8_append_7, fX8_append_17, nI_lt0, rd_g0, rd_p0, rd_f3, rd_w3, stR_eq, up_eq, kS_700, kI_1, lt_eq, h7, Option.bind_some, ↓reduceIte, stS_R, stR_stR, stR_ne (show 2 ≠ 1 by omega), stR_ne (show 1 ≠ 2 by omega), nI_add, up_up]
  rw [stR_sw (by omega)]
  rfl
set_option maxRecDepth 100000 in
set_option maxHeartbeats 400000 in
theorem c_app {b i : Nat} (hb : b + 20 ≤ 700) (hi : i < 5) : gX8_append 1 (wrd va vb vc vd ve i) (hp (fM S b (fun k => by8 (sfd va vb vc vd ve k)) (4 * i)) J T) = some (hp (fM S b (fun k => by8 (sfd va vb vc vd ve k)) (4 * (i + 1))) J T) := by
  obtain ⟨g, hg⟩ : ∃ g, FU = g + 5 := ⟨FU - 5, by have := FU_lt (n := 5) (by omega); omega⟩
  unfold gX8_append fX8_append_0
  rw [hg, kB_24]
  have a0 := s_app (S := S) (J := J) (T := T) (va := va) (vb := vb) (vc := vc) (vd := vd) (ve := ve) (g := g + 4) (r := 0) hb hi (by omega)
  have a1 := s_app (S := S) (J := J) (T := T) (va := va) (vb := vb) (vc := vc) (vd := vd) (ve := ve) (g := g + 3) (r := 1) hb hi (by omega)
  have a2 := s_app (S := S) (J := J) (T := T) (va := va) (vb := vb) (vc := vc) (vd := vd) (ve := ve) (g := g + 2) (r := 2) hb hi (by omega)
  have a3 := s_app (S := S) (J := J) (T := T) (va := va) (vb := vb) (vc := vc) (vd := vd) (ve := ve) (g := g + 1) (r := 3) hb hi (by omega)
  have q0 : nI (24 - 8 * 0) + kI (-8) = nI (24 - 8 * 1) := by decide
  have q1 : nI (24 - 8 * 1) + kI (-8) = nI (24 - 8 * 2) := by decide
  have q2 : nI (24 - 8 * 2) + kI (-8) = nI (24 - 8 * 3) := by decide
  have q3 : (nI (24 - 8 * 3) + kI (-8) < 0) = True := eq_true (by decide)
  rw [q0] at a0
  rw [q1] at a1
  rw [q2] at a2
  refine a0.trans (a1.trans (a2.trans (a3.trans ?_)))
  unfold lX8_append_3
  simp only [fX8_append_3, fX8_append_46, q3, ↓reduceIte]
  rfl
def gM (S : Mem) (b : Nat) (f : Nat → Int32) (k : Nat) : Mem := stR (stR S 168 (rwF (S 168) b f k)) 167 (up (S 167) 2 (nI (b + k)))
set_option maxRecDepth 100000 in
set_option maxHeartbeats 400000 in
theorem sh_k : ∀ k, k < 20 → nI 24 - nI 8 * (nI k - nI k / nI 4 * nI 4) = nI (24 - 8 * (k % 4)) := by decide
set_option maxRecDepth 100000 in
set_option maxHeartbeats 400000 in
theorem nz_4 : (nI 4 = 0) = False := eq_false (by decide)
set_option maxRecDepth 100000 in
set_option maxHeartbeats 400000 in
theorem l_feed {b : Nat} (hb : b + 20 ≤ 700) : lX11_feed_23 FU 167 va vb vc vd ve (nI 0) (hp (gM S b (fun k => sfd va vb vc vd ve k &&& nI 255) 0) J T) = some (nI (b + 20), hp (gM S b (fun k => sfd va vb vc vd ve k &&& nI 255) 20) J T) := by
  refine for_at lX11_feed_23 fX11_feed_23 (fun _ => rfl) (fun K k (M : Mem) => K 167 va vb vc vd ve (nI k) (hp M J T)) 20 (gM S b (fun k => sfd va vb vc vd ve k &&& nI 255)) _ (fun K k hk => ?_) (fun K => ?_) (FU_lt (by omega))
  · have hgo : ∀ w : Int32, wrd va vb vc vd ve (k / 4) = w → fX11_feed_76 K 167 va vb vc vd ve (nI k) w (hp (gM S b (fun k => sfd va vb vc vd ve k &&& nI 255) k) J T) = K 167 va vb vc vd ve (nI (k + 1)) (hp (gM S b (fun k => sfd va vb vc vd ve k &&& nI 255) (k + 1)) J T) := by
      intro w hw
      have es := rwF_s (S 168) b (fun k => sfd va vb vc vd ve k &&& nI 255) k
      unfold sfd at es
      rw [hw] at es
      have h7 : b + k < 700 := by omega
      have e3 : sfd va vb vc vd ve = fun k => wrd va vb vc vd ve (k / 4) >>> (nI (24 - 8 * (k % 4)) &&& 31) := rfl
      unfold gM
      rw [e3]
      dsimp only
      rw [← es]
      simp (disch := omega) only [fX11_feed_76, mo_f1, mo_g2, mo_p2, mo_w1, nz_4, kI_4, kB_24, kB_8, kS_255, kI_1, sh_k k hk, stR_eq, up_eq, Option.bind_some, ↓reduceIte, stS_R, stR_stR, stR_ne (show 168 ≠ 167 by omega), stR_ne (show 167 ≠ 168 by omega), nI_add, up_up]
      rw [stR_sw (by omega)]
      rfl
    have h16 : k / 4 = 0 ∨ k / 4 = 1 ∨ k / 4 = 2 ∨ k / 4 = 3 ∨ k / 4 = 4 := by omega
    rcases h16 with z | z | z | z | z
    · refine Eq.trans ?_ (hgo va (by rw [z]; rfl))
      simp (disch := omega) only [fX11_feed_23, fX11_feed_30, fX11_feed_36, kB_20, kI_4, lt_eq, hk, show k < 4 by omega, ↓reduceIte]
    · refine Eq.trans ?_ (hgo vb (by rw [z]; rfl))
      simp (disch := omega) only [fX11_feed_23, fX11_feed_30, fX11_feed_40, fX11_feed_47, kB_20, kI_4, kB_8, lt_eq, hk, show ¬ k < 4 by omega, show k < 8 by omega, ↓reduceIte]
    · refine Eq.trans ?_ (hgo vc (by rw [z]; rfl))
      simp (disch := omega) only [fX11_feed_23, fX11_feed_30, fX11_feed_40, fX11_feed_51, fX11_feed_58, kB_20, kI_4, kB_8, kB_12, lt_eq, hk, show ¬ k < 4 by omega, show ¬ k < 8 by omega, show k < 12 by omega, ↓reduceIte]
    · refine Eq.trans ?_ (hgo vd (by rw [z]; rfl))
      simp (disch := omega) only [fX11_feed_23, fX11_feed_30, fX11_feed_40, fX11_feed_51, fX11_feed_62, fX11_feed_69, kB_20, kI_4, kB_8, kB_12, kB_16, lt_eq, hk, show ¬ k < 4 by omega, show ¬ k < 8 by omega, show ¬ k < 12 by omega, show k < 16 by omega, ↓reduceIte]
    · refine Eq.trans ?_ (hgo ve (by rw [z]; rfl))
      simp (disch := omega) only [fX11_feed_23, fX11_feed_30, fX11_feed_40, fX11_feed_51, fX11_feed_62, fX11_feed_74, kB_20, kI_4, kB_8, kB_12, kB_16, lt_eq, hk, show ¬ k < 4 by omega, show ¬ k < 8 by omega, show ¬ k < 12 by omega, show ¬ k < 16 by omega, ↓reduceIte]
  · simp (disch := omega) only [fX11_feed_23, fX11_feed_120, kB_20, lt_eq, Nat.lt_irrefl, ↓reduceIte, mo_g2, gM, stR_eq, up_eq, Option.bind_some]
set_option maxRecDepth 100000 in
set_option maxHeartbeats 400000 in
theorem Rl_t {S' : Mem} (h : Rl S T) (ho : ∀ c, c ∉ [1, 2, 167, 168] → S' c = S c) (h1 : S' 1 2 = S 1 2) (hm : ∀ j, j ≠ 0 → j ≠ 2 → S' 167 j = S 167 j) (hT : Tpe S') : Rl S' T := by
  obtain ⟨h0, -, h2, h3⟩ := h
  have e170 : S' 170 = S 170 := ho 170 (by decide)
  have e172 : S' 172 = S 172 := ho 172 (by decide)
  have e174 : S' 174 = S 174 := ho 174 (by decide)
  have e176 : S' 176 = S 176 := ho 176 (by decide)
  have e177 : S' 177 = S 177 := ho 177 (by decide)
  have e139 : S' 139 = S 139 := ho 139 (by decide)
  have e56 : S' 56 = S 56 := ho 56 (by decide)
  have e122 : S' 122 = S 122 := ho 122 (by decide)
  have e0 : S' 0 = S 0 := ho 0 (by decide)
  have et : S' (T 0) = S (T 0) := by
    rcases h0 with z | z
    · rw [z.1]; exact ho 143 (by decide)
    · rw [z.1]; exact ho 155 (by decide)
  have eh : ∀ k, k < 16 → S' (58 + 4 * k) = S (58 + 4 * k) := fun k hk => ho _ (by simp; omega)
  have ei : ∀ k, k < 3 → S' (124 + 4 * k) = S (124 + 4 * k) := fun k hk => ho _ (by simp; omega)
  have p9 := hm 9 (by decide) (by decide)
  have p10 := hm 10 (by decide) (by decide)
  have p11 := hm 11 (by decide) (by decide)
  have p14 := hm 14 (by decide) (by decide)
  have p23 := hm 23 (by decide) (by decide)
  have p24 := hm 24 (by decide) (by decide)
  refine ⟨h0, hT, ?_, ?_⟩
  · unfold Trb at h2 ⊢
    rw [e0, p9, p10, p11, h1]
    exact h2
  · rw [p14]
    rcases h3 with ⟨z1, P, N, F, U, E, z2, z3⟩ | ⟨z1, z2⟩
    · have z3' : FdA S' P := by
        unfold FdA rw22 at z3 ⊢
        rw [e174, e176, e177, p23, p24]
        exact z3
      refine Or.inl ⟨z1, P, N, F, U, E, ?_, z3'⟩
      obtain ⟨y1, y2, y3, y4, y5, y6, ⟨u, x, w1, w2, w3, w4, w5, w6⟩, ⟨v, v1, v2, v3, v4⟩⟩ := z2
      refine ⟨by rw [e170]; exact y1, by rw [e170, et]; exact y2, by rw [e170, et]; exact y3, ?_, by rw [e139, e174]; exact y5, by rw [e174]; exact y6, ⟨u, x, w1, w2, by rw [e56]; exact w3, by rw [e56]; exact w4, by rw [p23]; exact w5, fun i hi => ?_⟩, ⟨v, v1, by rw [e122]; exact v2, by rw [p24]; exact v3, fun i hi => ?_⟩⟩
      · unfold Tld at y4 ⊢
        rw [et, e172]
        exact y4
      · have := w6 i hi
        unfold rw22 at this ⊢
        rw [eh _ (Nat.mod_lt _ (by omega)), e176]
        exact this
      · have := v4 i hi
        unfold rw22 at this ⊢
        rw [ei i (by omega), e177]
        exact this
    · refine Or.inr ⟨z1, ?_⟩
      unfold Nay at z2 ⊢
      rw [et, e139, e56, e122, p23, p24]
      exact z2
set_option maxRecDepth 100000 in
set_option maxHeartbeats 400000 in
theorem q_feed (h : Rl S T) : bth (fun h => gX10_feed 0 va vb vc vd ve h) (fun h => gX11_feed 167 va vb vc vd ve h) S J T := by
  obtain ⟨b, hb, hb1, hb2, hb3⟩ := h.2.1
  by_cases h7 : 700 < b + 20
  · refine ⟨m1, S, stR S 167 (up (S 167) 0 (nI 0)), J, J, T, ?_, ?_, Rl_t h (fun c hc => stR_ne (fun z => hc (by rw [z]; decide))) (by rw [stR_ne (by omega)]) (fun j z1 z2 => by rw [stR_eq, up_ne z1]) ?_⟩
    · simp (disch := omega) only [gX10_feed, fX10_feed_0, fX10_feed_6, fX10_feed_9, fX10_feed_12, fX10_feed_14, fX10_feed_19, fX10_feed_22, fX10_feed_27, fX10_feed_30, fX10_feed_35, fX10_feed_38, fX10_feed_44, fX10_feed_47, fX10_feed_53, fX10_feed_56, lt_f0, kB_20, rd_isO, kI_n, rd_g0, Option.bind_some, n35, n9, n19, n51, n59, nI_add, ix2, ix8, ix22, ix5, ↓reduceIte, gX8_hasRoom, fX8_hasRoom_0, fX8_hasRoom_12, fX8_hasRoom_16, fX8_hasRoom_17, rd_g0, kS_700, kI_1, kI_0, Option.bind_some, n35, n9, n19, n51, n59, nI_add, ix2, ix8, ix22, ix5, ↓reduceIte, hb1, lt_eq, h7, n0_0, z0_z, true_or]
    · simp (disch := omega) only [gX11_feed, fX11_feed_0, fX11_feed_18, mo_p0, mo_g2, stS_R, stR_eq, up_ne, hb2, kB_20, kS_700, kI_n, kI_0, nI_add, lt_eq, h7, Option.bind_some, ↓reduceIte]
    · exact ⟨b, hb, by rw [stR_ne (by omega)]; exact hb1, by rw [stR_eq, up_ne (by omega)]; exact hb2, fun k hk => by rw [stR_ne (by omega), stR_ne (by omega)]; exact hb3 k hk⟩
  · have hb20 : b + 20 ≤ 700 := by omega
    generalize hf : (fun k => by8 (sfd va vb vc vd ve k)) = f
    generalize hg : (fun k => sfd va vb vc vd ve k &&& nI 255) = g
    have e0 : fM S b f 0 = S := by
      unfold fM
      rw [rwF_0, stR_self, Nat.add_zero, up_pt hb1, stR_self]
    have c0 := c_app (S := S) (J := J) (T := T) (va := va) (vb := vb) (vc := vc) (vd := vd) (ve := ve) (i := 0) hb20 (by omega)
    have c1 := c_app (S := S) (J := J) (T := T) (va := va) (vb := vb) (vc := vc) (vd := vd) (ve := ve) (i := 1) hb20 (by omega)
    have c2 := c_app (S := S) (J := J) (T := T) (va := va) (vb := vb) (vc := vc) (vd := vd) (ve := ve) (i := 2) hb20 (by omega)
    have c3 := c_app (S := S) (J := J) (T := T) (va := va) (vb := vb) (vc := vc) (vd := vd) (ve := ve) (i := 3) hb20 (by omega)
    have c4 := c_app (S := S) (J := J) (T := T) (va := va) (vb := vb) (vc := vc) (vd := vd) (ve := ve) (i := 4) hb20 (by omega)
    rw [hf] at c0 c1 c2 c3 c4
    have z0 : gX8_append 1 va (hp S J T) = some (hp (fM S b f 4) J T) := by
      have c0' : gX8_append 1 va (hp (fM S b f 0) J T) = some (hp (fM S b f 4) J T) := c0
      rwa [e0] at c0'
    have z1 : gX8_append 1 vb (hp (fM S b f 4) J T) = some (hp (fM S b f 8) J T) := c1
    have z2 : gX8_append 1 vc (hp (fM S b f 8) J T) = some (hp (fM S b f 12) J T) := c2
    have z3 : gX8_append 1 vd (hp (fM S b f 12) J T) = some (hp (fM S b f 16) J T) := c3
    have z4 : gX8_append 1 ve (hp (fM S b f 16) J T) = some (hp (fM S b f 20) J T) := c4
    generalize hS1 : fM S b f 20 = S1 at z4
    have g1 : S1 1 = up (S 1) 0 (nI (b + 20)) := by rw [← hS1]; unfold fM; rw [stR_eq]
    have g2 : S1 2 = rwF (S 2) b f 20 := by rw [← hS1]; unfold fM; rw [stR_ne (by omega), stR_eq]
    have ge : ∀ c, c ≠ 1 → c ≠ 2 → S1 c = S c := fun c y1 y2 => by rw [← hS1]; unfold fM; rw [stR_ne y1, stR_ne y2]
    generalize hSm : stR S1 167 (up (S1 167) 0 (nI 0)) = Sm
    have hm2 : Sm 167 2 = nI b := by rw [← hSm, stR_eq, up_ne (by omega), ge 167 (by omega) (by omega)]; exact hb2
    have k0 : gM Sm b g 0 = Sm := by
      unfold gM
      rw [rwF_0, stR_self, Nat.add_zero, up_pt hm2, stR_self]
    have hl := l_feed (S := Sm) (J := J) (T := T) (va := va) (vb := vb) (vc := vc) (vd := vd) (ve := ve) hb20
    rw [hg, k0] at hl
    have q168 : gM Sm b g 20 168 = rwF (S 168) b g 20 := by
      unfold gM
      rw [stR_ne (by omega), stR_eq, ← hSm, stR_ne (by omega), ge 168 (by omega) (by omega)]
    have q167 : ∀ j, j ≠ 0 → j ≠ 2 → gM Sm b g 20 167 j = S 167 j := fun j y1 y2 => by
      unfold gM
      rw [stR_eq, up_ne y2, ← hSm, stR_eq, up_ne y1, ge 167 (by omega) (by omega)]
    have qe : ∀ c, c ∉ [167, 168] → gM Sm b g 20 c = S1 c := fun c hc => by
      simp only [List.mem_cons, List.not_mem_nil, or_false, not_or] at hc
      unfold gM
      rw [stR_ne hc.1, stR_ne hc.2, ← hSm, stR_ne hc.1]
    refine ⟨nI (b + 20), S1, gM Sm b g 20, J, J, T, ?_, ?_, Rl_t h (fun c hc => ?_) ?_ q167 ?_⟩
    · simp (disch := omega) only [gX10_feed, fX10_feed_0, fX10_feed_6, fX10_feed_9, fX10_feed_12, fX10_feed_14, fX10_feed_19, fX10_feed_22, fX10_feed_27, fX10_feed_30, fX10_feed_35, fX10_feed_38, fX10_feed_44, fX10_feed_47, fX10_feed_53, fX10_feed_56, lt_f0, kB_20, rd_isO, kI_n, rd_g0, Option.bind_some, n35, n9, n19, n51, n59, nI_add, ix2, ix8, ix22, ix5, ↓reduceIte, gX8_hasRoom, fX8_hasRoom_0, fX8_hasRoom_12, fX8_hasRoom_16, fX8_hasRoom_17, rd_g0, kS_700, kI_1, kI_0, Option.bind_some, n35, n9, n19, n51, n59, nI_add, ix2, ix8, ix22, ix5, ↓reduceIte, hb1, lt_eq, h7, n1_0, z1_z, z0, z1, z2, z3, z4, g1, up_eq, n11, or_true]
    · refine Eq.trans ?_ hl
      rw [← hSm]
      simp (disch := omega) only [gX11_feed, fX11_feed_0, fX11_feed_20, mo_p0, mo_g2, stS_R, stR_eq, up_ne, ge 167 (by omega) (by omega), hb2, kB_20, kS_700, kI_0, nI_add, lt_eq, h7, Option.bind_some, ↓reduceIte]
    · simp only [List.mem_cons, List.not_mem_nil, or_false, not_or] at hc
      rw [qe c (by simp; omega), ge c (by omega) (by omega)]
    · rw [qe 1 (by decide), g1, up_ne (by omega)]
    · refine ⟨b + 20, hb20, by rw [qe 1 (by decide), g1, up_eq], ?_, fun k hk => ?_⟩
      · unfold gM
        rw [stR_eq, up_eq]
      · rw [q168, qe 2 (by decide), g2]
        unfold rwF
        by_cases hkb : b ≤ k ∧ k < b + 20
        · rw [if_pos hkb, if_pos hkb, ← hf, ← hg]
          obtain ⟨y, y1, y2, y3⟩ := by8_ok (sfd va vb vc vd ve (k - b))
          exact ⟨y, y1, y2, y3⟩
        · rw [if_neg hkb, if_neg hkb]
          exact hb3 k (by omega)
end FEED

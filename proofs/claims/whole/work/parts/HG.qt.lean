-- TABLE
set_option maxRecDepth 100000 in
set_option maxHeartbeats 400000 in
theorem itr_u0 {r : Row} : ∀ n k (X : Row), itr (uns r 0) n k X = X := by
  intro n
  induction n with
  | zero => intro k X; rfl
  | succ n ih =>
    intro k X
    show itr (uns r 0) n (k + 1) (uns r 0 k X) = X
    rw [ih]
    unfold uns
    rw [b_0, if_neg (by decide)]
section QTB
variable {S : Mem} {J : MeJ} {T : Nat → Nat}
set_option maxRecDepth 100000 in
set_option maxHeartbeats 400000 in
theorem Rl_f {S' : Mem} (h : Rl S T) (ho : ∀ c, c ∉ [0, 1, 3, 4, 5, 6, 167, 169, 171, 173] → c ≠ T 1 → S' c = S c) (p14 : S' 167 14 = S 167 14) (p23 : S' 167 23 = S 167 23) (p24 : S' 167 24 = S 167 24) (hT : Tpe S') (hR : Trb S') : Rl S' T := by
  obtain ⟨h0, -, -, h3⟩ := h
  have h1 : T 1 = 143 ∨ T 1 = 155 := by rcases h0 with z | z <;> omega
  have e170 : S' 170 = S 170 := ho 170 (by decide) (by omega)
  have e172 : S' 172 = S 172 := ho 172 (by decide) (by omega)
  have e174 : S' 174 = S 174 := ho 174 (by decide) (by omega)
  have e176 : S' 176 = S 176 := ho 176 (by decide) (by omega)
  have e177 : S' 177 = S 177 := ho 177 (by decide) (by omega)
  have e139 : S' 139 = S 139 := ho 139 (by decide) (by omega)
  have e56 : S' 56 = S 56 := ho 56 (by decide) (by omega)
  have e122 : S' 122 = S 122 := ho 122 (by decide) (by omega)
  have et : S' (T 0) = S (T 0) := by
    rcases h0 with z | z
    · rw [z.1]; exact ho 143 (by decide) (by omega)
    · rw [z.1]; exact ho 155 (by decide) (by omega)
  have eh : ∀ k, k < 16 → S' (58 + 4 * k) = S (58 + 4 * k) := fun k hk => ho _ (by simp; omega) (by omega)
  have ei : ∀ k, k < 3 → S' (124 + 4 * k) = S (124 + 4 * k) := fun k hk => ho _ (by simp; omega) (by omega)
  refine ⟨h0, hT, hR, ?_⟩
  rw [p14]
  rcases h3 with ⟨z1, P, N, F, U, E, z2, z3⟩ | ⟨z1, z2⟩
  · have z3' : FdA S' P := by
      unfold FdA rw22 at z3 ⊢
      rw [e174, e176, e177, p23, p24]
      exact z3
    refine Or.inl ⟨z1, P, N, F, U, E, ?_, z3'⟩
    obtain ⟨y1, y2, y3, y4, y5, y6, ⟨u, x, w1, w2, w3, w4, w5, w6⟩, ⟨v, v1, v2, v3, v4⟩⟩ := z2
    refine ⟨by rw [e170]; exact y1, by rw [e170, et]; exact y2, by rw [e170, et]; exact y3, ?_, by rw [e139, e174]; exact y5, by rw [e174]; exact y6, ⟨u, x, w1, w2, by rw [e56]; exact w3, by rw [e56]; exact w4, by rw [p23]; exact w5, fun i hi => ?_⟩, ⟨v, v1, by rw [e122]; exact v2, by rw [p24]; exact v3, fun i hi => ?_⟩⟩
    · unfold Tld at y4 ⊢
      rw [et, e172]
      exact y4
    · have := w6 i hi
      unfold rw22 at this ⊢
      rw [eh _ (Nat.mod_lt _ (by omega)), e176]
      exact this
    · have := v4 i hi
      unfold rw22 at this ⊢
      rw [ei i (by omega), e177]
      exact this
  · refine Or.inr ⟨z1, ?_⟩
    unfold Nay at z2 ⊢
    rw [et, e139, e56, e122, p23, p24]
    exact z2
-- a table that was read: both hold the same
set_option maxRecDepth 100000 in
set_option maxHeartbeats 400000 in
theorem Rl_r {S1 S2 : Mem} {R : Row} {W : WL} {c : Nat → Nat} {X : Row} (hT : tT T) (hi : pIv R W c) (h3 : 0 < c 3) (ha : anyR R 19 (nI 0) (c 4) = true) (g1 : ∀ j, j < 8 → S1 (T 1) j = nI (c j)) (g2 : ∀ j, inD c j → S1 (T 1) j = R j) (g3 : S1 139 = bgC (S1 (T 1)) X 0 (c 6)) (g4 : S1 56 0 = nI 0) (g5 : S1 56 1 = nI 0) (g6 : S1 122 0 = nI 0) (m1 : rwM S R c) (x1 : ∀ j, j < 188 → S2 170 j = S 171 j) (x2 : ∀ j, j < 14 → S2 172 j = S 173 j) (x3 : ∀ k, k < c 4 → S2 172 (14 + k) = S 171 (20 + 2 * k)) (x4 : S2 174 = cpR (S2 172) (S 174) 22) (x5 : S2 167 14 = nI 1) (x6 : S2 167 23 = nI 0) (x7 : S2 167 24 = nI 0) (y1 : S2 (T 1) = S1 (T 1)) (y2 : S2 139 = S1 139) (y3 : S2 56 = S1 56) (y4 : S2 122 = S1 122) (hP : Tpe S2) (hR : Trb S2) : Rl S2 (swT T) := by
  obtain ⟨⟨k3, k4, k5, k6, k7, k8⟩, ⟨l0, l1, l2⟩, i3, i4, i5, i6, i7, i8, i9⟩ := hi
  obtain ⟨r1, r2, r3, r4, r5, r6⟩ := m1
  have e0 : swT T 0 = T 1 := rfl
  have q170 : ∀ j, j < 8 → S2 170 j = nI (c j) := fun j hj => by rw [x1 j (by omega)]; exact r1 j (by omega)
  have qk : ∀ p, p < c 3 → S2 170 (9 + 2 * p) = R (9 + 2 * p) ∧ S2 170 (10 + 2 * p) = R (10 + 2 * p) := fun p hp => ⟨by rw [x1 _ (by omega)]; exact r2 _ (by omega) (by omega), by rw [x1 _ (by omega)]; exact r2 _ (by omega) (by omega)⟩
  have qf : ∀ k, k < c 4 → S2 170 (19 + 2 * k) = R (19 + 2 * k) := fun k hk => by rw [x1 _ (by omega)]; exact (r3 k (by omega)).1
  have qo : ∀ j, 35 ≤ j → j < 71 → S2 170 j = R j := fun j z1 z2 => by rw [x1 _ (by omega)]; exact r4 j z1 z2
  have qh : ∀ p, p < c 3 → S2 172 p = R (100 + p) := fun p hp => by rw [x2 p (by omega)]; exact r5 p (by omega)
  have qw : ∀ k, k < c 4 → S2 172 (14 + k) = R (114 + k) := fun k hk => by rw [x3 k hk]; exact (r3 k (by omega)).2
  have qz : ∀ j, 5 ≤ j → j < 14 → S2 172 j = nI 0 := fun j z1 z2 => by rw [x2 j z2]; exact r6 j z1 (by omega)
  have c74 : ∀ j, j < 22 → S2 174 j = S2 172 j := fun j hj => by rw [x4]; exact if_pos hj
  have hU : agU (S2 (T 1)) (S2 170) (c 6) (c 7) := ⟨fun k hk => by
      rw [y1, g2 _ (by unfold inD; omega), g2 _ (by unfold inD; omega), qo _ (by omega) (by omega), qo _ (by omega) (by omega)]
      exact ⟨rfl, rfl⟩, fun k hk => by
      rw [y1, g2 _ (by unfold inD; omega), g2 _ (by unfold inD; omega), qo _ (by omega) (by omega), qo _ (by omega) (by omega)]
      exact ⟨rfl, rfl⟩⟩
  have hu : ∀ k, k < c 6 → ∃ p, p < c 3 ∧ S2 170 (51 + 2 * k) = nI p := fun k hk => by
    obtain ⟨⟨p, z1, z2⟩, _⟩ := i8 k hk
    exact ⟨p, z1, by rw [qo _ (by omega) (by omega)]; exact z2⟩
  refine ⟨?_, hP, hR, Or.inl ⟨x5, c 3, c 4, c 5, c 6, c 7, ⟨?_, ?_, ?_, ?_, ?_, ?_, ?_, ?_⟩, ?_⟩⟩
  · rcases hT with z | z
    · exact Or.inr ⟨z.2, z.1⟩
    · exact Or.inl ⟨z.2, z.1⟩
  · refine ⟨⟨q170 3 (by omega), k3, q170 4 (by omega), k4, ?_, ?_, fun p hp => ?_, ?_⟩, h3, q170 5 (by omega), k5, q170 6 (by omega), k6, q170 7 (by omega), k7, ?_, fun k hk => ?_, fun j k hj hk => ?_, fun k hk => ?_, hu, fun k hk => ?_, fun k hk => ?_⟩
    · rw [q170 0 (by omega)]; exact sm_n l0
    · rw [q170 1 (by omega)]; exact sm_n l1
    · rw [(qk p hp).2]; exact (i4 p hp).1
    · obtain ⟨k, z1, z2⟩ : ∃ k, k < c 4 ∧ R (19 + 2 * k) = nI 0 := by
        have : ∀ m, anyR R 19 (nI 0) m = true → ∃ k, k < m ∧ R (19 + 2 * k) = nI 0 := by
          intro m
          induction m with
          | zero => intro z; cases z
          | succ m ih =>
            intro z
            have z' : (anyR R 19 (nI 0) m || decide (R (19 + 2 * m) = nI 0)) = true := z
            rw [Bool.or_eq_true] at z'
            rcases z' with z' | z'
            · obtain ⟨k, w1, w2⟩ := ih z'
              exact ⟨k, by omega, w2⟩
            · exact ⟨m, by omega, of_decide_eq_true z'⟩
        exact this _ ha
      exact ⟨k, z1, by rw [qf k z1]; exact z2⟩
    · rw [q170 2 (by omega)]; exact sm_n l2
    · rw [qf k hk]; exact (i5 k hk).1
    · rw [qf j (by omega), qf k hk]; exact i6 j k hj hk
    · obtain ⟨p, z1, z2⟩ := i7 k hk
      exact ⟨p, z1, by rw [qo _ (by omega) (by omega)]; exact z2⟩
    · rw [qo _ (by omega) (by omega)]; exact (i8 k hk).2
    · obtain ⟨d, z1, z2, z3⟩ := i9 k hk
      exact ⟨d, z1, z2, by rw [qo _ (by omega) (by omega)]; exact z3⟩
  · rw [e0, y1]
    refine ⟨fun j hj => by rw [g1 j hj, q170 j hj], fun p hp => ?_, fun k hk => ?_, fun k hk => ?_⟩
    · rw [g2 _ (by unfold inD; omega), g2 _ (by unfold inD; omega), (qk p hp).1, (qk p hp).2]; exact ⟨rfl, rfl⟩
    · rw [g2 _ (by unfold inD; omega), qf k hk]
    · rw [g2 _ (by unfold inD; omega), g2 _ (by unfold inD; omega), qo _ (by omega) (by omega), qo _ (by omega) (by omega)]; exact ⟨rfl, rfl⟩
  · rw [e0]; exact hU
  · rw [e0]
    refine ⟨fun p hp => ⟨?_, ?_⟩, fun k hk => ⟨?_, ?_⟩, qz⟩
    · rw [y1, g2 _ (by unfold inD; omega), qh p hp]
    · rw [qh p hp]; exact (i4 p hp).2
    · rw [y1, g2 _ (by unfold inD; omega), qw k hk]
    · rw [qw k hk]; exact (i5 k hk).2
  · have hb := bg_ag (r := S2 (T 1)) (q := S2 170) (Z := S2 172) (X := X) (Y := S2 172) (s := 0) (U := c 6) (E := c 7) (P := c 3) (N := c 4) k3 k4 hU hu (fun p hp => by rw [y1, g2 _ (by unfold inD; omega), qh p hp]) (fun k hk => by rw [y1, g2 _ (by unfold inD; omega), qw k hk]) qz
    unfold bgM at hb
    rw [itr_u0] at hb
    rw [y2, g3, ← y1]
    refine ⟨fun p hp => ?_, fun j z1 z2 => ?_, fun k hk => ?_⟩
    · obtain ⟨w1, w2⟩ := hb.1 p hp
      rw [w1, w2, c74 p (by omega), c74 (5 + p) (by omega)]
      exact ⟨if_pos (by omega), if_pos (by omega)⟩
    · rw [hb.2.1 j z1 z2, c74 j (by omega)]
      exact if_pos (by omega)
    · rw [hb.2.2 k hk, c74 (14 + k) (by omega)]
      exact if_pos (by omega)
  · have h99 : ∀ p, p < c 3 → sm (S2 174 p) 99 := fun p hp => by rw [c74 p (by omega), qh p hp]; exact (i4 p hp).2
    have mon : ∀ {x : Int32} {a b : Nat}, sm x a → a ≤ b → sm x b := fun hx hab => by obtain ⟨m, z1, z2⟩ := hx; exact ⟨m, by omega, z2⟩
    have h0 : ∀ j B, 5 ≤ j → j < 14 → sm (S2 174 j) B := fun j B z1 z2 => by rw [c74 j (by omega), qz j z1 z2]; exact sm_n (Nat.zero_le _)
    exact ⟨fun p hp => mon (h99 p hp) (by omega), fun p hp _ => mon (h99 p hp) (by omega), fun p hp => h0 _ _ (by omega) (by omega), h0 _ _ (by omega) (by omega), fun k hk => by rw [c74 _ (by omega), qw k hk]; exact (i5 k hk).2, h0 _ _ (by omega) (by omega), h0 _ _ (by omega) (by omega), h0 _ _ (by omega) (by omega)⟩
  · exact ⟨0, 0, by omega, by omega, by rw [y3]; exact g4, by rw [y3]; exact g5, x6, fun i hi => absurd hi (Nat.not_lt_zero _)⟩
  · exact ⟨0, by omega, by rw [y4]; exact g6, x7, fun i hi => absurd hi (Nat.not_lt_zero _)⟩
  · refine ⟨fun p hp => ⟨0, 0, by omega, by omega, by rw [c74 _ (by omega)]; exact qz _ (by omega) (by omega), by rw [c74 _ (by omega)]; exact qz _ (by omega) (by omega)⟩, fun u hu z i hi => ?_, fun v hv z i hi => ?_⟩
    · rw [x6, eq_eq (by omega) (by omega)] at z; omega
    · rw [x7, eq_eq (by omega) (by omega)] at z; omega
set_option maxRecDepth 100000 in
set_option maxHeartbeats 400000 in
theorem q_table (h : Rl S T) (v : Int32) : bth (fun h => gX10_table 0 v h) (fun h => gX11_table 167 v h) S J T := by
  obtain ⟨hT, ⟨b, hb, hb1, hb2, hb3⟩, hR, hY⟩ := id h
  cases hin : inB v (nI 0) (nI b) with
  | false =>
    have z := of_decide_eq_false hin
    refine bth_q h (v := m1) (tr := nI 2) (cq_no ?_) (fun S1 hf => mq_no (X := up (nw S1) 11 (nI 2)) ?_ up_eq (nw_p S1 _)) (by decide)
    · have e15 : fX10_table_15 0 (hp S J T) = some (m1, hp (stR S 0 (up (S 0) 11 (nI 2))) J T) := by
        unfold fX10_table_15 fX10_table_17
        rw [lt_isO, Option.bind_some, kI_2, c_refuse, Option.bind_some]
        rfl
      unfold gX10_table fX10_table_0
      by_cases z0 : v < 0
      · rw [if_pos z0]; exact e15
      · rw [if_neg z0]
        unfold fX10_table_4
        rw [lt_f0, Option.bind_some, rd_g0, Option.bind_some, hb1, if_pos (show nI b < v from Decidable.byContradiction (fun q => z ⟨z0, q⟩))]
        exact e15
    · have h2 : S1 167 2 = nI b := by rw [hf 167 (by decide)]; exact hb2
      unfold gX11_table fX11_table_0 fX11_table_1
      rw [mo_isO, Option.bind_some, c_anew, Option.bind_some]
      unfold fX11_table_4
      rw [mo_g2, Option.bind_some, stR_eq, up_ne (by omega), up_ne (by omega), h2]
      unfold fX11_table_10
      rw [kI_0, c_in, Option.bind_some, hin]
      unfold fX11_table_13
      rw [if_pos (show bI false = 0 by decide)]
      unfold fX11_table_16 fX11_table_18
      rw [mo_isO, Option.bind_some, kI_2, c_no, Option.bind_some, stR_stR, stR_eq]
      rfl
  | true =>
    obtain ⟨n, -, hn, rfl⟩ := inB_t (by omega) (by omega) hin
    obtain ⟨y, hy⟩ : ∃ y : Nat → Nat, ∀ k, k < b → y k < 256 ∧ S 168 k = nI (y k) ∧ S 2 k = byv (y k) := by
      refine ⟨fun k => if hk : k < b then Classical.choose (hb3 k hk) else 0, fun k hk => ?_⟩
      dsimp only
      rw [dif_pos hk]
      exact Classical.choose_spec (hb3 k hk)
    have h1 : T 1 = 143 ∨ T 1 = 155 := by rcases hT with z | z <;> omega
    obtain ⟨S1, T1, w, a1, a2, a3⟩ := c_tabC (J := J) (y := y) hT ⟨by omega, fun k hk => ⟨(hy k (by omega)).1, (hy k (by omega)).2.2⟩⟩ hb1 hb hn
    have fr1 : fr S S1 (0 :: 139 :: 56 :: 122 :: LnS (T 1)) := by
      cases hA : pAll y n with
      | inl e => rw [hA] at a3; exact fr_wd a3.2.2.2.2.2 (fun x hx => by
        rcases List.mem_cons.mp hx with z | z
        · rw [z]; exact List.mem_cons_self
        · exact List.mem_cons_of_mem _ (List.mem_cons_of_mem _ (List.mem_cons_of_mem _ (List.mem_cons_of_mem _ z))))
      | inr q => rw [hA] at a3; exact a3.2.2.2.2.2.2.2.2.2.2
    have f167 : S1 167 = S 167 := fr1 167 (by simp [LnS]; omega)
    have f168 : S1 168 = S 168 := fr1 168 (by simp [LnS]; omega)
    obtain ⟨S2, b1, b2, b3, b4, b5⟩ := c_tabR (S := S1) (J := J) (T := T1) (y := y) (n := n) (b := b) ⟨by omega, fun k hk => ⟨(hy k (by omega)).1, by rw [f168]; exact (hy k (by omega)).2.1⟩⟩ (by rw [f167]; exact hb2) hb hn
    cases hA : pAll y n with
    | inl e =>
      rw [hA] at a3 b1
      obtain ⟨c1, c2, c3, c4, c5, c6⟩ := a3
      obtain ⟨d1, d2, d3, d4⟩ := b1
      rw [c1, c2] at a1
      refine ⟨m1, S1, stR S2 167 (up (S2 167) 11 (nI 4)), J, J, T, a1, ?_, ?_⟩
      · show gX11_table 167 (nI n) (hp S1 J T) = _
        rw [c2] at d1
        rw [d1]
        unfold fX11_table_239 fX11_table_241
        rw [mo_isO, Option.bind_some, kI_4, c_no, Option.bind_some]
        rfl
      · refine Rl_f h (fun c z1 z2 => ?_) ?_ ?_ ?_ ?_ ?_
        · simp only [List.mem_cons, List.not_mem_nil, or_false, not_or] at z1
          rw [stR_ne (by omega), b5 c (by omega) (by omega) (by omega) (by omega)]
          exact c6 c (by simp [LnS]; omega)
        · rw [stR_eq, up_ne (by omega), b4 14 (by decide), f167]
        · rw [stR_eq, up_ne (by omega), b4 23 (by decide), f167]
        · rw [stR_eq, up_ne (by omega), b4 24 (by decide), f167]
        · exact ⟨0, by omega, by rw [stR_ne (by omega), b5 1 (by omega) (by omega) (by omega) (by omega)]; exact a2, by rw [stR_eq, up_ne (by omega)]; exact b2, fun k hk => absurd hk (Nat.not_lt_zero _)⟩
        · refine ⟨?_, ?_, fun _ => ?_⟩
          · rw [stR_eq, up_eq, stR_ne (by omega), b5 0 (by omega) (by omega) (by omega) (by omega)]; exact c3
          · rw [stR_eq, up_ne (by omega), stR_ne (by omega), b5 0 (by omega) (by omega) (by omega) (by omega), d3]; exact c4
          · rw [stR_eq, up_ne (by omega), stR_ne (by omega), b5 1 (by omega) (by omega) (by omega) (by omega), d4]; exact c5
    | inr q =>
      rw [hA] at a3 b1
      obtain ⟨c1, c2, c3, c4, c5, c6, c7, c8, c9, c10, c11⟩ := a3
      obtain ⟨d1, d2, d3⟩ := b1
      obtain ⟨i1, i2, i3⟩ := pAll_inv hA
      obtain ⟨S4, e1, e2, e3, e4, e5, e6, e7, e8, e9, e10⟩ := c_tabT (J := J) (T := T1) d2
      have fx : ∀ c, c ∉ [167, 169, 170, 171, 172, 173, 174] → S4 c = S1 c := fun c hc => by
        simp only [List.mem_cons, List.not_mem_nil, or_false, not_or] at hc
        rw [e10 c (by omega) (by omega) (by omega) (by omega) (by omega)]
        exact b5 c (by omega) (by omega) (by omega) (by omega)
      refine ⟨w, S1, S4, J, J, T1, a1, ?_, ?_⟩
      · show gX11_table 167 (nI n) (hp S1 J T1) = _
        rw [d1, e1, c1]
      · rw [c2]
        refine Rl_r (S := S2) (S1 := S1) (R := q.1) (W := q.2.1) (c := q.2.2.1) (X := S 139) hT i1 i2 i3 c5 c6 c7 c8 c9 c10 d2.1.2.1 e2 e3 e4 e5 e6 e7 e8 ?_ ?_ ?_ ?_ ?_ ?_
        · exact fx _ (by simp; omega)
        · exact fx 139 (by decide)
        · exact fx 56 (by decide)
        · exact fx 122 (by decide)
        · exact ⟨0, by omega, by rw [fx 1 (by decide)]; exact a2, by rw [e9 2 (by omega) (by omega) (by omega)]; exact b2, fun k hk => absurd hk (Nat.not_lt_zero _)⟩
        · refine ⟨?_, ?_, fun z => ?_⟩
          · rw [fx 0 (by decide), c3, e9 11 (by omega) (by omega) (by omega), b3]
          · rw [fx 0 (by decide), c4, e9 9 (by omega) (by omega) (by omega), d3]
          · rw [e9 11 (by omega) (by omega) (by omega), b3, eq_eq (by omega) (by omega)] at z
            omega
end QTB
